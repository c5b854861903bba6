set_option maxHeartbeats 4000000 in
set_option maxRecDepth 100000 in
theorem n_School (l : Launch) (dC : Nat → ClassId) (dI : Nat → Nat → Nat) (cI cC cZ : ClassId) (sz : Nat) (h0 : Nat) : Met l yX3_init wsX3_init ({ frames := 1, cells := 10, slots := 60, locals := 12 }) (va_Pc [.ref h0] (vx_B (dC, dI) (vx_T cI cC cZ) sz [(h0, .inr (2, [.int 0, .int 0, .int 0, .int 0, .int 0, .int 0, .null, .null, .null, .null, .null, .null, .null, .null, .null, .null]))])) (va_Qv (fun (_ : Nat → Nat) => True) (vx_C (dC, dI) (vx_T cI cC cZ) (va_A [(h0, .inr (2, [.int 0, .int 0, .int 0, .int 0, .int 0, .int 0, .null, .null, .null, .null, .null, .null, .null, .null, .null, .null]))] sz) (fun (u : Nat → Nat) => [(h0, .inr (2, [.int 0, .int 2, .int 1, .int 10, .int 0, .int 1, .ref (u 0), .ref (u 1), .ref (u 2), .ref (u 3), .ref (u 4), .ref (u 5), .ref (u 6), .ref (u 7), .ref (u 8), .ref (u 9)])), ((u 0), .inl (cI, 6, .inl (fun _ => 0))), ((u 1), .inl (cI, 6, .inl (fun _ => 0))), ((u 2), .inl (cI, 6, .inl (fun _ => 0))), ((u 3), .inl (cI, 6, .inl (fun _ => 0))), ((u 4), .inl (cI, 6, .inl (fun _ => 0))), ((u 5), .inl (cI, 6, .inl (fun _ => 0))), ((u 6), .inl (cI, 6, .inl (fun _ => 0))), ((u 7), .inl (cI, 6, .inl (fun _ => 0))), ((u 8), .inl (cI, 6, .inl (fun _ => 0))), ((u 9), .inl (cI, 6, .inl (fun _ => 0)))])) (va_A [(h0, .inr (2, [.int 0, .int 0, .int 0, .int 0, .int 0, .int 0, .null, .null, .null, .null, .null, .null, .null, .null, .null, .null]))] sz)) 10 60 (va_A [(h0, .inr (2, [.int 0, .int 0, .int 0, .int 0, .int 0, .int 0, .null, .null, .null, .null, .null, .null, .null, .null, .null, .null]))] sz) := by
  refine Met.ofW (cc := cX3_init) (maxL := 1) (ret := none) (by decide) rfl ?_
  intro p e s m args below meth c s₁ B hml hv
  obtain ⟨rfl, hsz, hP, hK, hD0, hN⟩ := hv
  have hx := B.exec
  have hb := B.bytes
  have hr := B.returns
  have hts := atoms_spec (ws := wsX3_init) B.pre
  have hown : s.vm.findClass RX3 = some m.cls := findClass_of_methodNamed B.named
  have hlocks := B.notSynchronized
  have hin : meth.name = "<init>" := (name_of_methodNamed B.named B.method).1
  subst hsz
  have hD := hD0.self (sz := s.heap.size)
  generalize hAe : va_A [(h0, .inr (2, [.int 0, .int 0, .int 0, .int 0, .int 0, .int 0, .null, .null, .null, .null, .null, .null, .null, .null, .null, .null]))] s.heap.size = A at hD hN ⊢
  have hA : ∀ q : Nat, s.heap.size ≤ q → A q := fun q h => by rw [← hAe]; exact Or.inr h
  have hS : va_S A s.heap s.heap [] := va_S.rf
  have hl := lv_entry ([.ref h0]) (n := 1) (Nat.le_of_ble_eq_true rfl)
  rw [lg_entry_eq]
  generalize (lg_sl ([.ref h0]) ++ List.replicate (1 - (lg_sl ([.ref h0])).length) Slot.unset).toArray = ls at hl ⊢
  have hl : lv_has ls 1 [(0, .ref h0)] := hl
  have iX3 : ∀ w ∈ u_ws RX3 TX3 16, w ∈ wsX3_init := fun w h => (List.mem_cons_of_mem _ (List.mem_append_right _ h))
  refine lv_aload_n hx hb dX3_init_0 rfl (lv_at hl 0 rfl) ?_
  refine W.objInit hx hb hown (hts (.methodLink RX3 3 objectInit) (vm_at 1 rfl)) (hts (.instanceMethod objectInit) (vm_at 2 rfl)) (hts (.code objectInit ⟨#[0xb1]⟩ 1 none) (vm_at 3 rfl)) rfl (by rw [hml]; exact hl.1) rfl dX3_init_1 (Nat.le_of_ble_eq_true rfl) (Nat.le_of_ble_eq_true rfl) ?_
  refine W.eq (g2 := F0 m 4 ls []) rfl ?_
  refine lv_aload_n hx hb dX3_init_4 rfl (lv_at hl 0 rfl) ?_
  refine lv_iconst (v := 0) hx hb dX3_init_5 (by decide) ?_
  refine va_put (D := (dC, dI)) (ci := 2) (v := .int 0) (ty := .int) (C := RX3) (T := TX3) (N := 16) hx hb hts iX3 tyX3 tyX3_ok nmX3 hown hK hP hD hS 0 rfl rfl 0 (by decide) (hts (.fieldLink RX3 9 "NeighboursMark$School" "count" "I") (vm_at 4 rfl)) (fun _ h9 => h9) rfl (tyX3_ok 0 (by decide)) rfl rfl (Nat.le_of_ble_eq_true rfl) dX3_init_6 (fun H locs hP hD hS => ?_)
  have hP : va_P (dC, dI) vwCl [(h0, .inr (2, [.int 0, .int 0, .int 0, .int 0, .int 0, .int 0, .null, .null, .null, .null, .null, .null, .null, .null, .null, .null]))] H := hP
  have hD : va_D A [(h0, .inr (2, [.int 0, .int 0, .int 0, .int 0, .int 0, .int 0, .null, .null, .null, .null, .null, .null, .null, .null, .null, .null]))] := hD
  refine lv_aload_n hx hb dX3_init_9 rfl (lv_at hl 0 rfl) ?_
  refine lv_iconst (v := 2) hx hb dX3_init_10 (by decide) ?_
  refine va_put (D := (dC, dI)) (ci := 2) (v := .int 2) (ty := .int) (C := RX3) (T := TX3) (N := 16) hx hb hts iX3 tyX3 tyX3_ok nmX3 hown hK hP hD hS 0 rfl rfl 1 (by decide) (hts (.fieldLink RX3 15 "NeighboursMark$School" "hours" "I") (vm_at 5 rfl)) (fun _ h9 => h9) rfl (tyX3_ok 1 (by decide)) rfl rfl (Nat.le_of_ble_eq_true rfl) dX3_init_11 (fun H locs hP hD hS => ?_)
  have hP : va_P (dC, dI) vwCl [(h0, .inr (2, [.int 0, .int 2, .int 0, .int 0, .int 0, .int 0, .null, .null, .null, .null, .null, .null, .null, .null, .null, .null]))] H := hP
  have hD : va_D A [(h0, .inr (2, [.int 0, .int 2, .int 0, .int 0, .int 0, .int 0, .null, .null, .null, .null, .null, .null, .null, .null, .null, .null]))] := hD
  refine lv_aload_n hx hb dX3_init_14 rfl (lv_at hl 0 rfl) ?_
  refine lv_iconst (v := 1) hx hb dX3_init_15 (by decide) ?_
  refine va_put (D := (dC, dI)) (ci := 2) (v := .int 1) (ty := .int) (C := RX3) (T := TX3) (N := 16) hx hb hts iX3 tyX3 tyX3_ok nmX3 hown hK hP hD hS 0 rfl rfl 2 (by decide) (hts (.fieldLink RX3 18 "NeighboursMark$School" "law" "I") (vm_at 6 rfl)) (fun _ h9 => h9) rfl (tyX3_ok 2 (by decide)) rfl rfl (Nat.le_of_ble_eq_true rfl) dX3_init_16 (fun H locs hP hD hS => ?_)
  have hP : va_P (dC, dI) vwCl [(h0, .inr (2, [.int 0, .int 2, .int 1, .int 0, .int 0, .int 0, .null, .null, .null, .null, .null, .null, .null, .null, .null, .null]))] H := hP
  have hD : va_D A [(h0, .inr (2, [.int 0, .int 2, .int 1, .int 0, .int 0, .int 0, .null, .null, .null, .null, .null, .null, .null, .null, .null, .null]))] := hD
  refine lv_aload_n hx hb dX3_init_19 rfl (lv_at hl 0 rfl) ?_
  refine lv_bipush (v := 10) hx hb dX3_init_20 (by decide) ?_
  refine va_put (D := (dC, dI)) (ci := 2) (v := .int 10) (ty := .int) (C := RX3) (T := TX3) (N := 16) hx hb hts iX3 tyX3 tyX3_ok nmX3 hown hK hP hD hS 0 rfl rfl 3 (by decide) (hts (.fieldLink RX3 21 "NeighboursMark$School" "pass" "I") (vm_at 7 rfl)) (fun _ h9 => h9) rfl (tyX3_ok 3 (by decide)) rfl rfl (Nat.le_of_ble_eq_true rfl) dX3_init_22 (fun H locs hP hD hS => ?_)
  have hP : va_P (dC, dI) vwCl [(h0, .inr (2, [.int 0, .int 2, .int 1, .int 10, .int 0, .int 0, .null, .null, .null, .null, .null, .null, .null, .null, .null, .null]))] H := hP
  have hD : va_D A [(h0, .inr (2, [.int 0, .int 2, .int 1, .int 10, .int 0, .int 0, .null, .null, .null, .null, .null, .null, .null, .null, .null, .null]))] := hD
  refine lv_aload_n hx hb dX3_init_25 rfl (lv_at hl 0 rfl) ?_
  refine lv_iconst (v := 0) hx hb dX3_init_26 (by decide) ?_
  refine va_put (D := (dC, dI)) (ci := 2) (v := .int 0) (ty := .int) (C := RX3) (T := TX3) (N := 16) hx hb hts iX3 tyX3 tyX3_ok nmX3 hown hK hP hD hS 0 rfl rfl 4 (by decide) (hts (.fieldLink RX3 24 "NeighboursMark$School" "week" "I") (vm_at 8 rfl)) (fun _ h9 => h9) rfl (tyX3_ok 4 (by decide)) rfl rfl (Nat.le_of_ble_eq_true rfl) dX3_init_27 (fun H locs hP hD hS => ?_)
  have hP : va_P (dC, dI) vwCl [(h0, .inr (2, [.int 0, .int 2, .int 1, .int 10, .int 0, .int 0, .null, .null, .null, .null, .null, .null, .null, .null, .null, .null]))] H := hP
  have hD : va_D A [(h0, .inr (2, [.int 0, .int 2, .int 1, .int 10, .int 0, .int 0, .null, .null, .null, .null, .null, .null, .null, .null, .null, .null]))] := hD
  refine lv_aload_n hx hb dX3_init_30 rfl (lv_at hl 0 rfl) ?_
  refine lv_iconst (v := 1) hx hb dX3_init_31 (by decide) ?_
  refine va_put (D := (dC, dI)) (ci := 2) (v := .int 1) (ty := .boolean) (C := RX3) (T := TX3) (N := 16) hx hb hts iX3 tyX3 tyX3_ok nmX3 hown hK hP hD hS 0 rfl rfl 5 (by decide) (hts (.fieldLink RX3 27 "NeighboursMark$School" "ring" "Z") (vm_at 9 rfl)) (fun _ h9 => h9) rfl (tyX3_ok 5 (by decide)) rfl rfl (Nat.le_of_ble_eq_true rfl) dX3_init_32 (fun H locs hP hD hS => ?_)
  have hP : va_P (dC, dI) vwCl [(h0, .inr (2, [.int 0, .int 2, .int 1, .int 10, .int 0, .int 1, .null, .null, .null, .null, .null, .null, .null, .null, .null, .null]))] H := hP
  have hD : va_D A [(h0, .inr (2, [.int 0, .int 2, .int 1, .int 10, .int 0, .int 1, .null, .null, .null, .null, .null, .null, .null, .null, .null, .null]))] := hD
  refine lv_aload_n hx hb dX3_init_35 rfl (lv_at hl 0 rfl) ?_
  refine lv_bipush (v := 6) hx hb dX3_init_36 (by decide) ?_
  refine va_newa (atype := .int) (ty := .int) hx hb (hts (.arrayClass .int) (vm_at 10 rfl)) rfl hK hP hD hS hA (a0 := (6, .inl (fun _ => 0))) (N' := 6) (fun _ => rfl) (by decide) (by decide) (by decide) (Nat.le_of_ble_eq_true rfl) (Nat.le_of_ble_eq_true rfl) dX3_init_38 (fun q1 cA2 H hK9 hP hD hS => ?_)
  have ecA2 := (vx_same .int (fun _ => rfl) hK9 0 3 rfl rfl).symm
  subst ecA2
  refine W.widen (k := 1) (n := 6) (Nat.le_refl _) (Nat.le_refl _) ?_
  have hP : va_P (dC, dI) vwCl [(h0, .inr (2, [.int 0, .int 2, .int 1, .int 10, .int 0, .int 1, .null, .null, .null, .null, .null, .null, .null, .null, .null, .null])), (q1, .inl (cI, 6, .inl (fun _ => 0)))] H := hP
  have hD : va_D A [(h0, .inr (2, [.int 0, .int 2, .int 1, .int 10, .int 0, .int 1, .null, .null, .null, .null, .null, .null, .null, .null, .null, .null])), (q1, .inl (cI, 6, .inl (fun _ => 0)))] := hD
  refine va_putF (D := (dC, dI)) (ci := 2) (v := .ref q1) (ty := (.array .int)) (C := RX3) (T := TX3) (N := 16) hx hb hts iX3 tyX3 tyX3_ok nmX3 hown hK hP hD hS 0 rfl rfl 6 (by decide) (hts (.fieldLink RX3 31 "NeighboursMark$School" "kind" "[I") (vm_at 11 rfl)) (fun _ h9 => h9) rfl hin rfl (tyX3_ok 6 (by decide)) rfl rfl (Nat.le_of_ble_eq_true rfl) dX3_init_40 (fun H locs hP hD hS => ?_)
  have hP : va_P (dC, dI) vwCl [(h0, .inr (2, [.int 0, .int 2, .int 1, .int 10, .int 0, .int 1, .ref q1, .null, .null, .null, .null, .null, .null, .null, .null, .null])), (q1, .inl (cI, 6, .inl (fun _ => 0)))] H := hP
  have hD : va_D A [(h0, .inr (2, [.int 0, .int 2, .int 1, .int 10, .int 0, .int 1, .ref q1, .null, .null, .null, .null, .null, .null, .null, .null, .null])), (q1, .inl (cI, 6, .inl (fun _ => 0)))] := hD
  refine lv_aload_n hx hb dX3_init_43 rfl (lv_at hl 0 rfl) ?_
  refine lv_bipush (v := 6) hx hb dX3_init_44 (by decide) ?_
  refine va_newa (atype := .int) (ty := .int) hx hb (hts (.arrayClass .int) (vm_at 10 rfl)) rfl hK hP hD hS hA (a0 := (6, .inl (fun _ => 0))) (N' := 6) (fun _ => rfl) (by decide) (by decide) (by decide) (Nat.le_of_ble_eq_true rfl) (Nat.le_of_ble_eq_true rfl) dX3_init_46 (fun q3 cA4 H hK9 hP hD hS => ?_)
  have ecA4 := (vx_same .int (fun _ => rfl) hK9 0 3 rfl rfl).symm
  subst ecA4
  refine W.widen (k := 2) (n := 12) (Nat.le_refl _) (Nat.le_refl _) ?_
  have hP : va_P (dC, dI) vwCl [(h0, .inr (2, [.int 0, .int 2, .int 1, .int 10, .int 0, .int 1, .ref q1, .null, .null, .null, .null, .null, .null, .null, .null, .null])), (q1, .inl (cI, 6, .inl (fun _ => 0))), (q3, .inl (cI, 6, .inl (fun _ => 0)))] H := hP
  have hD : va_D A [(h0, .inr (2, [.int 0, .int 2, .int 1, .int 10, .int 0, .int 1, .ref q1, .null, .null, .null, .null, .null, .null, .null, .null, .null])), (q1, .inl (cI, 6, .inl (fun _ => 0))), (q3, .inl (cI, 6, .inl (fun _ => 0)))] := hD
  refine va_putF (D := (dC, dI)) (ci := 2) (v := .ref q3) (ty := (.array .int)) (C := RX3) (T := TX3) (N := 16) hx hb hts iX3 tyX3 tyX3_ok nmX3 hown hK hP hD hS 0 rfl rfl 7 (by decide) (hts (.fieldLink RX3 35 "NeighboursMark$School" "quick" "[I") (vm_at 12 rfl)) (fun _ h9 => h9) rfl hin rfl (tyX3_ok 7 (by decide)) rfl rfl (Nat.le_of_ble_eq_true rfl) dX3_init_48 (fun H locs hP hD hS => ?_)
  have hP : va_P (dC, dI) vwCl [(h0, .inr (2, [.int 0, .int 2, .int 1, .int 10, .int 0, .int 1, .ref q1, .ref q3, .null, .null, .null, .null, .null, .null, .null, .null])), (q1, .inl (cI, 6, .inl (fun _ => 0))), (q3, .inl (cI, 6, .inl (fun _ => 0)))] H := hP
  have hD : va_D A [(h0, .inr (2, [.int 0, .int 2, .int 1, .int 10, .int 0, .int 1, .ref q1, .ref q3, .null, .null, .null, .null, .null, .null, .null, .null])), (q1, .inl (cI, 6, .inl (fun _ => 0))), (q3, .inl (cI, 6, .inl (fun _ => 0)))] := hD
  refine lv_aload_n hx hb dX3_init_51 rfl (lv_at hl 0 rfl) ?_
  refine lv_bipush (v := 6) hx hb dX3_init_52 (by decide) ?_
  refine va_newa (atype := .int) (ty := .int) hx hb (hts (.arrayClass .int) (vm_at 10 rfl)) rfl hK hP hD hS hA (a0 := (6, .inl (fun _ => 0))) (N' := 6) (fun _ => rfl) (by decide) (by decide) (by decide) (Nat.le_of_ble_eq_true rfl) (Nat.le_of_ble_eq_true rfl) dX3_init_54 (fun q5 cA6 H hK9 hP hD hS => ?_)
  have ecA6 := (vx_same .int (fun _ => rfl) hK9 0 3 rfl rfl).symm
  subst ecA6
  refine W.widen (k := 3) (n := 18) (Nat.le_refl _) (Nat.le_refl _) ?_
  have hP : va_P (dC, dI) vwCl [(h0, .inr (2, [.int 0, .int 2, .int 1, .int 10, .int 0, .int 1, .ref q1, .ref q3, .null, .null, .null, .null, .null, .null, .null, .null])), (q1, .inl (cI, 6, .inl (fun _ => 0))), (q3, .inl (cI, 6, .inl (fun _ => 0))), (q5, .inl (cI, 6, .inl (fun _ => 0)))] H := hP
  have hD : va_D A [(h0, .inr (2, [.int 0, .int 2, .int 1, .int 10, .int 0, .int 1, .ref q1, .ref q3, .null, .null, .null, .null, .null, .null, .null, .null])), (q1, .inl (cI, 6, .inl (fun _ => 0))), (q3, .inl (cI, 6, .inl (fun _ => 0))), (q5, .inl (cI, 6, .inl (fun _ => 0)))] := hD
  refine va_putF (D := (dC, dI)) (ci := 2) (v := .ref q5) (ty := (.array .int)) (C := RX3) (T := TX3) (N := 16) hx hb hts iX3 tyX3 tyX3_ok nmX3 hown hK hP hD hS 0 rfl rfl 8 (by decide) (hts (.fieldLink RX3 38 "NeighboursMark$School" "teaches" "[I") (vm_at 13 rfl)) (fun _ h9 => h9) rfl hin rfl (tyX3_ok 8 (by decide)) rfl rfl (Nat.le_of_ble_eq_true rfl) dX3_init_56 (fun H locs hP hD hS => ?_)
  have hP : va_P (dC, dI) vwCl [(h0, .inr (2, [.int 0, .int 2, .int 1, .int 10, .int 0, .int 1, .ref q1, .ref q3, .ref q5, .null, .null, .null, .null, .null, .null, .null])), (q1, .inl (cI, 6, .inl (fun _ => 0))), (q3, .inl (cI, 6, .inl (fun _ => 0))), (q5, .inl (cI, 6, .inl (fun _ => 0)))] H := hP
  have hD : va_D A [(h0, .inr (2, [.int 0, .int 2, .int 1, .int 10, .int 0, .int 1, .ref q1, .ref q3, .ref q5, .null, .null, .null, .null, .null, .null, .null])), (q1, .inl (cI, 6, .inl (fun _ => 0))), (q3, .inl (cI, 6, .inl (fun _ => 0))), (q5, .inl (cI, 6, .inl (fun _ => 0)))] := hD
  refine lv_aload_n hx hb dX3_init_59 rfl (lv_at hl 0 rfl) ?_
  refine lv_bipush (v := 6) hx hb dX3_init_60 (by decide) ?_
  refine va_newa (atype := .int) (ty := .int) hx hb (hts (.arrayClass .int) (vm_at 10 rfl)) rfl hK hP hD hS hA (a0 := (6, .inl (fun _ => 0))) (N' := 6) (fun _ => rfl) (by decide) (by decide) (by decide) (Nat.le_of_ble_eq_true rfl) (Nat.le_of_ble_eq_true rfl) dX3_init_62 (fun q7 cA8 H hK9 hP hD hS => ?_)
  have ecA8 := (vx_same .int (fun _ => rfl) hK9 0 3 rfl rfl).symm
  subst ecA8
  refine W.widen (k := 4) (n := 24) (Nat.le_refl _) (Nat.le_refl _) ?_
  have hP : va_P (dC, dI) vwCl [(h0, .inr (2, [.int 0, .int 2, .int 1, .int 10, .int 0, .int 1, .ref q1, .ref q3, .ref q5, .null, .null, .null, .null, .null, .null, .null])), (q1, .inl (cI, 6, .inl (fun _ => 0))), (q3, .inl (cI, 6, .inl (fun _ => 0))), (q5, .inl (cI, 6, .inl (fun _ => 0))), (q7, .inl (cI, 6, .inl (fun _ => 0)))] H := hP
  have hD : va_D A [(h0, .inr (2, [.int 0, .int 2, .int 1, .int 10, .int 0, .int 1, .ref q1, .ref q3, .ref q5, .null, .null, .null, .null, .null, .null, .null])), (q1, .inl (cI, 6, .inl (fun _ => 0))), (q3, .inl (cI, 6, .inl (fun _ => 0))), (q5, .inl (cI, 6, .inl (fun _ => 0))), (q7, .inl (cI, 6, .inl (fun _ => 0)))] := hD
  refine va_putF (D := (dC, dI)) (ci := 2) (v := .ref q7) (ty := (.array .int)) (C := RX3) (T := TX3) (N := 16) hx hb hts iX3 tyX3 tyX3_ok nmX3 hown hK hP hD hS 0 rfl rfl 9 (by decide) (hts (.fieldLink RX3 41 "NeighboursMark$School" "sick" "[I") (vm_at 14 rfl)) (fun _ h9 => h9) rfl hin rfl (tyX3_ok 9 (by decide)) rfl rfl (Nat.le_of_ble_eq_true rfl) dX3_init_64 (fun H locs hP hD hS => ?_)
  have hP : va_P (dC, dI) vwCl [(h0, .inr (2, [.int 0, .int 2, .int 1, .int 10, .int 0, .int 1, .ref q1, .ref q3, .ref q5, .ref q7, .null, .null, .null, .null, .null, .null])), (q1, .inl (cI, 6, .inl (fun _ => 0))), (q3, .inl (cI, 6, .inl (fun _ => 0))), (q5, .inl (cI, 6, .inl (fun _ => 0))), (q7, .inl (cI, 6, .inl (fun _ => 0)))] H := hP
  have hD : va_D A [(h0, .inr (2, [.int 0, .int 2, .int 1, .int 10, .int 0, .int 1, .ref q1, .ref q3, .ref q5, .ref q7, .null, .null, .null, .null, .null, .null])), (q1, .inl (cI, 6, .inl (fun _ => 0))), (q3, .inl (cI, 6, .inl (fun _ => 0))), (q5, .inl (cI, 6, .inl (fun _ => 0))), (q7, .inl (cI, 6, .inl (fun _ => 0)))] := hD
  refine lv_aload_n hx hb dX3_init_67 rfl (lv_at hl 0 rfl) ?_
  refine lv_bipush (v := 6) hx hb dX3_init_68 (by decide) ?_
  refine va_newa (atype := .int) (ty := .int) hx hb (hts (.arrayClass .int) (vm_at 10 rfl)) rfl hK hP hD hS hA (a0 := (6, .inl (fun _ => 0))) (N' := 6) (fun _ => rfl) (by decide) (by decide) (by decide) (Nat.le_of_ble_eq_true rfl) (Nat.le_of_ble_eq_true rfl) dX3_init_70 (fun q9 cA10 H hK9 hP hD hS => ?_)
  have ecA10 := (vx_same .int (fun _ => rfl) hK9 0 3 rfl rfl).symm
  subst ecA10
  refine W.widen (k := 5) (n := 30) (Nat.le_refl _) (Nat.le_refl _) ?_
  have hP : va_P (dC, dI) vwCl [(h0, .inr (2, [.int 0, .int 2, .int 1, .int 10, .int 0, .int 1, .ref q1, .ref q3, .ref q5, .ref q7, .null, .null, .null, .null, .null, .null])), (q1, .inl (cI, 6, .inl (fun _ => 0))), (q3, .inl (cI, 6, .inl (fun _ => 0))), (q5, .inl (cI, 6, .inl (fun _ => 0))), (q7, .inl (cI, 6, .inl (fun _ => 0))), (q9, .inl (cI, 6, .inl (fun _ => 0)))] H := hP
  have hD : va_D A [(h0, .inr (2, [.int 0, .int 2, .int 1, .int 10, .int 0, .int 1, .ref q1, .ref q3, .ref q5, .ref q7, .null, .null, .null, .null, .null, .null])), (q1, .inl (cI, 6, .inl (fun _ => 0))), (q3, .inl (cI, 6, .inl (fun _ => 0))), (q5, .inl (cI, 6, .inl (fun _ => 0))), (q7, .inl (cI, 6, .inl (fun _ => 0))), (q9, .inl (cI, 6, .inl (fun _ => 0)))] := hD
  refine va_putF (D := (dC, dI)) (ci := 2) (v := .ref q9) (ty := (.array .int)) (C := RX3) (T := TX3) (N := 16) hx hb hts iX3 tyX3 tyX3_ok nmX3 hown hK hP hD hS 0 rfl rfl 10 (by decide) (hts (.fieldLink RX3 44 "NeighboursMark$School" "learn" "[I") (vm_at 15 rfl)) (fun _ h9 => h9) rfl hin rfl (tyX3_ok 10 (by decide)) rfl rfl (Nat.le_of_ble_eq_true rfl) dX3_init_72 (fun H locs hP hD hS => ?_)
  have hP : va_P (dC, dI) vwCl [(h0, .inr (2, [.int 0, .int 2, .int 1, .int 10, .int 0, .int 1, .ref q1, .ref q3, .ref q5, .ref q7, .ref q9, .null, .null, .null, .null, .null])), (q1, .inl (cI, 6, .inl (fun _ => 0))), (q3, .inl (cI, 6, .inl (fun _ => 0))), (q5, .inl (cI, 6, .inl (fun _ => 0))), (q7, .inl (cI, 6, .inl (fun _ => 0))), (q9, .inl (cI, 6, .inl (fun _ => 0)))] H := hP
  have hD : va_D A [(h0, .inr (2, [.int 0, .int 2, .int 1, .int 10, .int 0, .int 1, .ref q1, .ref q3, .ref q5, .ref q7, .ref q9, .null, .null, .null, .null, .null])), (q1, .inl (cI, 6, .inl (fun _ => 0))), (q3, .inl (cI, 6, .inl (fun _ => 0))), (q5, .inl (cI, 6, .inl (fun _ => 0))), (q7, .inl (cI, 6, .inl (fun _ => 0))), (q9, .inl (cI, 6, .inl (fun _ => 0)))] := hD
  refine lv_aload_n hx hb dX3_init_75 rfl (lv_at hl 0 rfl) ?_
  refine lv_bipush (v := 6) hx hb dX3_init_76 (by decide) ?_
  refine va_newa (atype := .int) (ty := .int) hx hb (hts (.arrayClass .int) (vm_at 10 rfl)) rfl hK hP hD hS hA (a0 := (6, .inl (fun _ => 0))) (N' := 6) (fun _ => rfl) (by decide) (by decide) (by decide) (Nat.le_of_ble_eq_true rfl) (Nat.le_of_ble_eq_true rfl) dX3_init_78 (fun q11 cA12 H hK9 hP hD hS => ?_)
  have ecA12 := (vx_same .int (fun _ => rfl) hK9 0 3 rfl rfl).symm
  subst ecA12
  refine W.widen (k := 6) (n := 36) (Nat.le_refl _) (Nat.le_refl _) ?_
  have hP : va_P (dC, dI) vwCl [(h0, .inr (2, [.int 0, .int 2, .int 1, .int 10, .int 0, .int 1, .ref q1, .ref q3, .ref q5, .ref q7, .ref q9, .null, .null, .null, .null, .null])), (q1, .inl (cI, 6, .inl (fun _ => 0))), (q3, .inl (cI, 6, .inl (fun _ => 0))), (q5, .inl (cI, 6, .inl (fun _ => 0))), (q7, .inl (cI, 6, .inl (fun _ => 0))), (q9, .inl (cI, 6, .inl (fun _ => 0))), (q11, .inl (cI, 6, .inl (fun _ => 0)))] H := hP
  have hD : va_D A [(h0, .inr (2, [.int 0, .int 2, .int 1, .int 10, .int 0, .int 1, .ref q1, .ref q3, .ref q5, .ref q7, .ref q9, .null, .null, .null, .null, .null])), (q1, .inl (cI, 6, .inl (fun _ => 0))), (q3, .inl (cI, 6, .inl (fun _ => 0))), (q5, .inl (cI, 6, .inl (fun _ => 0))), (q7, .inl (cI, 6, .inl (fun _ => 0))), (q9, .inl (cI, 6, .inl (fun _ => 0))), (q11, .inl (cI, 6, .inl (fun _ => 0)))] := hD
  refine va_putF (D := (dC, dI)) (ci := 2) (v := .ref q11) (ty := (.array .int)) (C := RX3) (T := TX3) (N := 16) hx hb hts iX3 tyX3 tyX3_ok nmX3 hown hK hP hD hS 0 rfl rfl 11 (by decide) (hts (.fieldLink RX3 47 "NeighboursMark$School" "teach" "[I") (vm_at 16 rfl)) (fun _ h9 => h9) rfl hin rfl (tyX3_ok 11 (by decide)) rfl rfl (Nat.le_of_ble_eq_true rfl) dX3_init_80 (fun H locs hP hD hS => ?_)
  have hP : va_P (dC, dI) vwCl [(h0, .inr (2, [.int 0, .int 2, .int 1, .int 10, .int 0, .int 1, .ref q1, .ref q3, .ref q5, .ref q7, .ref q9, .ref q11, .null, .null, .null, .null])), (q1, .inl (cI, 6, .inl (fun _ => 0))), (q3, .inl (cI, 6, .inl (fun _ => 0))), (q5, .inl (cI, 6, .inl (fun _ => 0))), (q7, .inl (cI, 6, .inl (fun _ => 0))), (q9, .inl (cI, 6, .inl (fun _ => 0))), (q11, .inl (cI, 6, .inl (fun _ => 0)))] H := hP
  have hD : va_D A [(h0, .inr (2, [.int 0, .int 2, .int 1, .int 10, .int 0, .int 1, .ref q1, .ref q3, .ref q5, .ref q7, .ref q9, .ref q11, .null, .null, .null, .null])), (q1, .inl (cI, 6, .inl (fun _ => 0))), (q3, .inl (cI, 6, .inl (fun _ => 0))), (q5, .inl (cI, 6, .inl (fun _ => 0))), (q7, .inl (cI, 6, .inl (fun _ => 0))), (q9, .inl (cI, 6, .inl (fun _ => 0))), (q11, .inl (cI, 6, .inl (fun _ => 0)))] := hD
  refine lv_aload_n hx hb dX3_init_83 rfl (lv_at hl 0 rfl) ?_
  refine lv_bipush (v := 6) hx hb dX3_init_84 (by decide) ?_
  refine va_newa (atype := .int) (ty := .int) hx hb (hts (.arrayClass .int) (vm_at 10 rfl)) rfl hK hP hD hS hA (a0 := (6, .inl (fun _ => 0))) (N' := 6) (fun _ => rfl) (by decide) (by decide) (by decide) (Nat.le_of_ble_eq_true rfl) (Nat.le_of_ble_eq_true rfl) dX3_init_86 (fun q13 cA14 H hK9 hP hD hS => ?_)
  have ecA14 := (vx_same .int (fun _ => rfl) hK9 0 3 rfl rfl).symm
  subst ecA14
  refine W.widen (k := 7) (n := 42) (Nat.le_refl _) (Nat.le_refl _) ?_
  have hP : va_P (dC, dI) vwCl [(h0, .inr (2, [.int 0, .int 2, .int 1, .int 10, .int 0, .int 1, .ref q1, .ref q3, .ref q5, .ref q7, .ref q9, .ref q11, .null, .null, .null, .null])), (q1, .inl (cI, 6, .inl (fun _ => 0))), (q3, .inl (cI, 6, .inl (fun _ => 0))), (q5, .inl (cI, 6, .inl (fun _ => 0))), (q7, .inl (cI, 6, .inl (fun _ => 0))), (q9, .inl (cI, 6, .inl (fun _ => 0))), (q11, .inl (cI, 6, .inl (fun _ => 0))), (q13, .inl (cI, 6, .inl (fun _ => 0)))] H := hP
  have hD : va_D A [(h0, .inr (2, [.int 0, .int 2, .int 1, .int 10, .int 0, .int 1, .ref q1, .ref q3, .ref q5, .ref q7, .ref q9, .ref q11, .null, .null, .null, .null])), (q1, .inl (cI, 6, .inl (fun _ => 0))), (q3, .inl (cI, 6, .inl (fun _ => 0))), (q5, .inl (cI, 6, .inl (fun _ => 0))), (q7, .inl (cI, 6, .inl (fun _ => 0))), (q9, .inl (cI, 6, .inl (fun _ => 0))), (q11, .inl (cI, 6, .inl (fun _ => 0))), (q13, .inl (cI, 6, .inl (fun _ => 0)))] := hD
  refine va_putF (D := (dC, dI)) (ci := 2) (v := .ref q13) (ty := (.array .int)) (C := RX3) (T := TX3) (N := 16) hx hb hts iX3 tyX3 tyX3_ok nmX3 hown hK hP hD hS 0 rfl rfl 12 (by decide) (hts (.fieldLink RX3 50 "NeighboursMark$School" "seats" "[I") (vm_at 17 rfl)) (fun _ h9 => h9) rfl hin rfl (tyX3_ok 12 (by decide)) rfl rfl (Nat.le_of_ble_eq_true rfl) dX3_init_88 (fun H locs hP hD hS => ?_)
  have hP : va_P (dC, dI) vwCl [(h0, .inr (2, [.int 0, .int 2, .int 1, .int 10, .int 0, .int 1, .ref q1, .ref q3, .ref q5, .ref q7, .ref q9, .ref q11, .ref q13, .null, .null, .null])), (q1, .inl (cI, 6, .inl (fun _ => 0))), (q3, .inl (cI, 6, .inl (fun _ => 0))), (q5, .inl (cI, 6, .inl (fun _ => 0))), (q7, .inl (cI, 6, .inl (fun _ => 0))), (q9, .inl (cI, 6, .inl (fun _ => 0))), (q11, .inl (cI, 6, .inl (fun _ => 0))), (q13, .inl (cI, 6, .inl (fun _ => 0)))] H := hP
  have hD : va_D A [(h0, .inr (2, [.int 0, .int 2, .int 1, .int 10, .int 0, .int 1, .ref q1, .ref q3, .ref q5, .ref q7, .ref q9, .ref q11, .ref q13, .null, .null, .null])), (q1, .inl (cI, 6, .inl (fun _ => 0))), (q3, .inl (cI, 6, .inl (fun _ => 0))), (q5, .inl (cI, 6, .inl (fun _ => 0))), (q7, .inl (cI, 6, .inl (fun _ => 0))), (q9, .inl (cI, 6, .inl (fun _ => 0))), (q11, .inl (cI, 6, .inl (fun _ => 0))), (q13, .inl (cI, 6, .inl (fun _ => 0)))] := hD
  refine lv_aload_n hx hb dX3_init_91 rfl (lv_at hl 0 rfl) ?_
  refine lv_bipush (v := 6) hx hb dX3_init_92 (by decide) ?_
  refine va_newa (atype := .int) (ty := .int) hx hb (hts (.arrayClass .int) (vm_at 10 rfl)) rfl hK hP hD hS hA (a0 := (6, .inl (fun _ => 0))) (N' := 6) (fun _ => rfl) (by decide) (by decide) (by decide) (Nat.le_of_ble_eq_true rfl) (Nat.le_of_ble_eq_true rfl) dX3_init_94 (fun q15 cA16 H hK9 hP hD hS => ?_)
  have ecA16 := (vx_same .int (fun _ => rfl) hK9 0 3 rfl rfl).symm
  subst ecA16
  refine W.widen (k := 8) (n := 48) (Nat.le_refl _) (Nat.le_refl _) ?_
  have hP : va_P (dC, dI) vwCl [(h0, .inr (2, [.int 0, .int 2, .int 1, .int 10, .int 0, .int 1, .ref q1, .ref q3, .ref q5, .ref q7, .ref q9, .ref q11, .ref q13, .null, .null, .null])), (q1, .inl (cI, 6, .inl (fun _ => 0))), (q3, .inl (cI, 6, .inl (fun _ => 0))), (q5, .inl (cI, 6, .inl (fun _ => 0))), (q7, .inl (cI, 6, .inl (fun _ => 0))), (q9, .inl (cI, 6, .inl (fun _ => 0))), (q11, .inl (cI, 6, .inl (fun _ => 0))), (q13, .inl (cI, 6, .inl (fun _ => 0))), (q15, .inl (cI, 6, .inl (fun _ => 0)))] H := hP
  have hD : va_D A [(h0, .inr (2, [.int 0, .int 2, .int 1, .int 10, .int 0, .int 1, .ref q1, .ref q3, .ref q5, .ref q7, .ref q9, .ref q11, .ref q13, .null, .null, .null])), (q1, .inl (cI, 6, .inl (fun _ => 0))), (q3, .inl (cI, 6, .inl (fun _ => 0))), (q5, .inl (cI, 6, .inl (fun _ => 0))), (q7, .inl (cI, 6, .inl (fun _ => 0))), (q9, .inl (cI, 6, .inl (fun _ => 0))), (q11, .inl (cI, 6, .inl (fun _ => 0))), (q13, .inl (cI, 6, .inl (fun _ => 0))), (q15, .inl (cI, 6, .inl (fun _ => 0)))] := hD
  refine va_putF (D := (dC, dI)) (ci := 2) (v := .ref q15) (ty := (.array .int)) (C := RX3) (T := TX3) (N := 16) hx hb hts iX3 tyX3 tyX3_ok nmX3 hown hK hP hD hS 0 rfl rfl 13 (by decide) (hts (.fieldLink RX3 53 "NeighboursMark$School" "left" "[I") (vm_at 18 rfl)) (fun _ h9 => h9) rfl hin rfl (tyX3_ok 13 (by decide)) rfl rfl (Nat.le_of_ble_eq_true rfl) dX3_init_96 (fun H locs hP hD hS => ?_)
  have hP : va_P (dC, dI) vwCl [(h0, .inr (2, [.int 0, .int 2, .int 1, .int 10, .int 0, .int 1, .ref q1, .ref q3, .ref q5, .ref q7, .ref q9, .ref q11, .ref q13, .ref q15, .null, .null])), (q1, .inl (cI, 6, .inl (fun _ => 0))), (q3, .inl (cI, 6, .inl (fun _ => 0))), (q5, .inl (cI, 6, .inl (fun _ => 0))), (q7, .inl (cI, 6, .inl (fun _ => 0))), (q9, .inl (cI, 6, .inl (fun _ => 0))), (q11, .inl (cI, 6, .inl (fun _ => 0))), (q13, .inl (cI, 6, .inl (fun _ => 0))), (q15, .inl (cI, 6, .inl (fun _ => 0)))] H := hP
  have hD : va_D A [(h0, .inr (2, [.int 0, .int 2, .int 1, .int 10, .int 0, .int 1, .ref q1, .ref q3, .ref q5, .ref q7, .ref q9, .ref q11, .ref q13, .ref q15, .null, .null])), (q1, .inl (cI, 6, .inl (fun _ => 0))), (q3, .inl (cI, 6, .inl (fun _ => 0))), (q5, .inl (cI, 6, .inl (fun _ => 0))), (q7, .inl (cI, 6, .inl (fun _ => 0))), (q9, .inl (cI, 6, .inl (fun _ => 0))), (q11, .inl (cI, 6, .inl (fun _ => 0))), (q13, .inl (cI, 6, .inl (fun _ => 0))), (q15, .inl (cI, 6, .inl (fun _ => 0)))] := hD
  refine lv_aload_n hx hb dX3_init_99 rfl (lv_at hl 0 rfl) ?_
  refine lv_bipush (v := 6) hx hb dX3_init_100 (by decide) ?_
  refine va_newa (atype := .int) (ty := .int) hx hb (hts (.arrayClass .int) (vm_at 10 rfl)) rfl hK hP hD hS hA (a0 := (6, .inl (fun _ => 0))) (N' := 6) (fun _ => rfl) (by decide) (by decide) (by decide) (Nat.le_of_ble_eq_true rfl) (Nat.le_of_ble_eq_true rfl) dX3_init_102 (fun q17 cA18 H hK9 hP hD hS => ?_)
  have ecA18 := (vx_same .int (fun _ => rfl) hK9 0 3 rfl rfl).symm
  subst ecA18
  refine W.widen (k := 9) (n := 54) (Nat.le_refl _) (Nat.le_refl _) ?_
  have hP : va_P (dC, dI) vwCl [(h0, .inr (2, [.int 0, .int 2, .int 1, .int 10, .int 0, .int 1, .ref q1, .ref q3, .ref q5, .ref q7, .ref q9, .ref q11, .ref q13, .ref q15, .null, .null])), (q1, .inl (cI, 6, .inl (fun _ => 0))), (q3, .inl (cI, 6, .inl (fun _ => 0))), (q5, .inl (cI, 6, .inl (fun _ => 0))), (q7, .inl (cI, 6, .inl (fun _ => 0))), (q9, .inl (cI, 6, .inl (fun _ => 0))), (q11, .inl (cI, 6, .inl (fun _ => 0))), (q13, .inl (cI, 6, .inl (fun _ => 0))), (q15, .inl (cI, 6, .inl (fun _ => 0))), (q17, .inl (cI, 6, .inl (fun _ => 0)))] H := hP
  have hD : va_D A [(h0, .inr (2, [.int 0, .int 2, .int 1, .int 10, .int 0, .int 1, .ref q1, .ref q3, .ref q5, .ref q7, .ref q9, .ref q11, .ref q13, .ref q15, .null, .null])), (q1, .inl (cI, 6, .inl (fun _ => 0))), (q3, .inl (cI, 6, .inl (fun _ => 0))), (q5, .inl (cI, 6, .inl (fun _ => 0))), (q7, .inl (cI, 6, .inl (fun _ => 0))), (q9, .inl (cI, 6, .inl (fun _ => 0))), (q11, .inl (cI, 6, .inl (fun _ => 0))), (q13, .inl (cI, 6, .inl (fun _ => 0))), (q15, .inl (cI, 6, .inl (fun _ => 0))), (q17, .inl (cI, 6, .inl (fun _ => 0)))] := hD
  refine va_putF (D := (dC, dI)) (ci := 2) (v := .ref q17) (ty := (.array .int)) (C := RX3) (T := TX3) (N := 16) hx hb hts iX3 tyX3 tyX3_ok nmX3 hown hK hP hD hS 0 rfl rfl 14 (by decide) (hts (.fieldLink RX3 56 "NeighboursMark$School" "right" "[I") (vm_at 19 rfl)) (fun _ h9 => h9) rfl hin rfl (tyX3_ok 14 (by decide)) rfl rfl (Nat.le_of_ble_eq_true rfl) dX3_init_104 (fun H locs hP hD hS => ?_)
  have hP : va_P (dC, dI) vwCl [(h0, .inr (2, [.int 0, .int 2, .int 1, .int 10, .int 0, .int 1, .ref q1, .ref q3, .ref q5, .ref q7, .ref q9, .ref q11, .ref q13, .ref q15, .ref q17, .null])), (q1, .inl (cI, 6, .inl (fun _ => 0))), (q3, .inl (cI, 6, .inl (fun _ => 0))), (q5, .inl (cI, 6, .inl (fun _ => 0))), (q7, .inl (cI, 6, .inl (fun _ => 0))), (q9, .inl (cI, 6, .inl (fun _ => 0))), (q11, .inl (cI, 6, .inl (fun _ => 0))), (q13, .inl (cI, 6, .inl (fun _ => 0))), (q15, .inl (cI, 6, .inl (fun _ => 0))), (q17, .inl (cI, 6, .inl (fun _ => 0)))] H := hP
  have hD : va_D A [(h0, .inr (2, [.int 0, .int 2, .int 1, .int 10, .int 0, .int 1, .ref q1, .ref q3, .ref q5, .ref q7, .ref q9, .ref q11, .ref q13, .ref q15, .ref q17, .null])), (q1, .inl (cI, 6, .inl (fun _ => 0))), (q3, .inl (cI, 6, .inl (fun _ => 0))), (q5, .inl (cI, 6, .inl (fun _ => 0))), (q7, .inl (cI, 6, .inl (fun _ => 0))), (q9, .inl (cI, 6, .inl (fun _ => 0))), (q11, .inl (cI, 6, .inl (fun _ => 0))), (q13, .inl (cI, 6, .inl (fun _ => 0))), (q15, .inl (cI, 6, .inl (fun _ => 0))), (q17, .inl (cI, 6, .inl (fun _ => 0)))] := hD
  refine lv_aload_n hx hb dX3_init_107 rfl (lv_at hl 0 rfl) ?_
  refine lv_bipush (v := 6) hx hb dX3_init_108 (by decide) ?_
  refine va_newa (atype := .int) (ty := .int) hx hb (hts (.arrayClass .int) (vm_at 10 rfl)) rfl hK hP hD hS hA (a0 := (6, .inl (fun _ => 0))) (N' := 6) (fun _ => rfl) (by decide) (by decide) (by decide) (Nat.le_of_ble_eq_true rfl) (Nat.le_of_ble_eq_true rfl) dX3_init_110 (fun q19 cA20 H hK9 hP hD hS => ?_)
  have ecA20 := (vx_same .int (fun _ => rfl) hK9 0 3 rfl rfl).symm
  subst ecA20
  refine W.widen (k := 10) (n := 60) (Nat.le_refl _) (Nat.le_refl _) ?_
  have hP : va_P (dC, dI) vwCl [(h0, .inr (2, [.int 0, .int 2, .int 1, .int 10, .int 0, .int 1, .ref q1, .ref q3, .ref q5, .ref q7, .ref q9, .ref q11, .ref q13, .ref q15, .ref q17, .null])), (q1, .inl (cI, 6, .inl (fun _ => 0))), (q3, .inl (cI, 6, .inl (fun _ => 0))), (q5, .inl (cI, 6, .inl (fun _ => 0))), (q7, .inl (cI, 6, .inl (fun _ => 0))), (q9, .inl (cI, 6, .inl (fun _ => 0))), (q11, .inl (cI, 6, .inl (fun _ => 0))), (q13, .inl (cI, 6, .inl (fun _ => 0))), (q15, .inl (cI, 6, .inl (fun _ => 0))), (q17, .inl (cI, 6, .inl (fun _ => 0))), (q19, .inl (cI, 6, .inl (fun _ => 0)))] H := hP
  have hD : va_D A [(h0, .inr (2, [.int 0, .int 2, .int 1, .int 10, .int 0, .int 1, .ref q1, .ref q3, .ref q5, .ref q7, .ref q9, .ref q11, .ref q13, .ref q15, .ref q17, .null])), (q1, .inl (cI, 6, .inl (fun _ => 0))), (q3, .inl (cI, 6, .inl (fun _ => 0))), (q5, .inl (cI, 6, .inl (fun _ => 0))), (q7, .inl (cI, 6, .inl (fun _ => 0))), (q9, .inl (cI, 6, .inl (fun _ => 0))), (q11, .inl (cI, 6, .inl (fun _ => 0))), (q13, .inl (cI, 6, .inl (fun _ => 0))), (q15, .inl (cI, 6, .inl (fun _ => 0))), (q17, .inl (cI, 6, .inl (fun _ => 0))), (q19, .inl (cI, 6, .inl (fun _ => 0)))] := hD
  refine va_putF (D := (dC, dI)) (ci := 2) (v := .ref q19) (ty := (.array .int)) (C := RX3) (T := TX3) (N := 16) hx hb hts iX3 tyX3 tyX3_ok nmX3 hown hK hP hD hS 0 rfl rfl 15 (by decide) (hts (.fieldLink RX3 59 "NeighboursMark$School" "nextLearn" "[I") (vm_at 20 rfl)) (fun _ h9 => h9) rfl hin rfl (tyX3_ok 15 (by decide)) rfl rfl (Nat.le_of_ble_eq_true rfl) dX3_init_112 (fun H locs hP hD hS => ?_)
  have hP : va_P (dC, dI) vwCl [(h0, .inr (2, [.int 0, .int 2, .int 1, .int 10, .int 0, .int 1, .ref q1, .ref q3, .ref q5, .ref q7, .ref q9, .ref q11, .ref q13, .ref q15, .ref q17, .ref q19])), (q1, .inl (cI, 6, .inl (fun _ => 0))), (q3, .inl (cI, 6, .inl (fun _ => 0))), (q5, .inl (cI, 6, .inl (fun _ => 0))), (q7, .inl (cI, 6, .inl (fun _ => 0))), (q9, .inl (cI, 6, .inl (fun _ => 0))), (q11, .inl (cI, 6, .inl (fun _ => 0))), (q13, .inl (cI, 6, .inl (fun _ => 0))), (q15, .inl (cI, 6, .inl (fun _ => 0))), (q17, .inl (cI, 6, .inl (fun _ => 0))), (q19, .inl (cI, 6, .inl (fun _ => 0)))] H := hP
  have hD : va_D A [(h0, .inr (2, [.int 0, .int 2, .int 1, .int 10, .int 0, .int 1, .ref q1, .ref q3, .ref q5, .ref q7, .ref q9, .ref q11, .ref q13, .ref q15, .ref q17, .ref q19])), (q1, .inl (cI, 6, .inl (fun _ => 0))), (q3, .inl (cI, 6, .inl (fun _ => 0))), (q5, .inl (cI, 6, .inl (fun _ => 0))), (q7, .inl (cI, 6, .inl (fun _ => 0))), (q9, .inl (cI, 6, .inl (fun _ => 0))), (q11, .inl (cI, 6, .inl (fun _ => 0))), (q13, .inl (cI, 6, .inl (fun _ => 0))), (q15, .inl (cI, 6, .inl (fun _ => 0))), (q17, .inl (cI, 6, .inl (fun _ => 0))), (q19, .inl (cI, 6, .inl (fun _ => 0)))] := hD
  exact vx_vret (u := fun k => ([q1, q3, q5, q7, q9, q11, q13, q15, q17, q19] : List Nat).getD k 0) hx hb hr hlocks hK hP hD hS [0, 1, 2, 3, 4, 5, 6, 7, 8, 9, 10] rfl (by decide) trivial dX3_init_115
set_option maxHeartbeats 4000000 in
set_option maxRecDepth 100000 in
theorem n_Numbers64 (l : Launch) (dC : Nat → ClassId) (dI : Nat → Nat → Nat) (cI cC cZ : ClassId) (sz : Nat) (h0 : Nat) : Met l yX1_init wsX1_init ({ frames := 1, cells := 1, slots := 64, locals := 21 }) (va_Pc [.ref h0, .int 64] (vx_B (dC, dI) (vx_T cI cC cZ) sz [(h0, .inr (0, [.null, .int 0]))])) (va_Qv (fun (_ : Nat → Nat) => True) (vx_C (dC, dI) (vx_T cI cC cZ) (va_A [(h0, .inr (0, [.null, .int 0]))] sz) (fun (u : Nat → Nat) => [(h0, .inr (0, [.ref (u 0), .int 0])), ((u 0), .inl (cI, 64, .inl (fun _ => 0)))])) (va_A [(h0, .inr (0, [.null, .int 0]))] sz)) 1 64 (va_A [(h0, .inr (0, [.null, .int 0]))] sz) := by
  refine Met.ofW (cc := cX1_init) (maxL := 2) (ret := none) (by decide) rfl ?_
  intro p e s m args below meth c s₁ B hml hv
  obtain ⟨rfl, hsz, hP, hK, hD0, hN⟩ := hv
  have hx := B.exec
  have hb := B.bytes
  have hr := B.returns
  have hts := atoms_spec (ws := wsX1_init) B.pre
  have hown : s.vm.findClass RX1 = some m.cls := findClass_of_methodNamed B.named
  have hlocks := B.notSynchronized
  have hin : meth.name = "<init>" := (name_of_methodNamed B.named B.method).1
  subst hsz
  have hD := hD0.self (sz := s.heap.size)
  generalize hAe : va_A [(h0, .inr (0, [.null, .int 0]))] s.heap.size = A at hD hN ⊢
  have hA : ∀ q : Nat, s.heap.size ≤ q → A q := fun q h => by rw [← hAe]; exact Or.inr h
  have hS : va_S A s.heap s.heap [] := va_S.rf
  have hl := lv_entry ([.ref h0, .int 64]) (n := 2) (Nat.le_of_ble_eq_true rfl)
  rw [lg_entry_eq]
  generalize (lg_sl ([.ref h0, .int 64]) ++ List.replicate (2 - (lg_sl ([.ref h0, .int 64])).length) Slot.unset).toArray = ls at hl ⊢
  have hl : lv_has ls 2 [(0, .ref h0), (1, .int 64)] := hl
  have iX1 : ∀ w ∈ u_ws RX1 TX1 2, w ∈ wsX1_init := fun w h => (List.mem_cons_of_mem _ (List.mem_append_right _ h))
  refine lv_aload_n hx hb dX1_init_0 rfl (lv_at hl 0 rfl) ?_
  refine W.objInit hx hb hown (hts (.methodLink RX1 1 objectInit) (vm_at 1 rfl)) (hts (.instanceMethod objectInit) (vm_at 2 rfl)) (hts (.code objectInit ⟨#[0xb1]⟩ 1 none) (vm_at 3 rfl)) rfl (by rw [hml]; exact hl.1) rfl dX1_init_1 (Nat.le_of_ble_eq_true rfl) (Nat.le_of_ble_eq_true rfl) ?_
  refine W.eq (g2 := F0 m 4 ls []) rfl ?_
  refine lv_aload_n hx hb dX1_init_4 rfl (lv_at hl 0 rfl) ?_
  refine lv_iconst (v := 0) hx hb dX1_init_5 (by decide) ?_
  refine lv_iload_n hx hb dX1_init_6 rfl (lv_at hl 1 rfl) ?_
  refine va_mmax hx hb (by rw [hml]; exact hl.1.symm) hown (hts (.methodLink RX1 7 Lib.Math.max.name) (vm_at 4 rfl)) (hts (.static Lib.Math.max.name) (vm_at 5 rfl)) (hts (.initialized "java/lang/Math") (vm_at 6 rfl)) (hts (.code Lib.Math.max.name Lib.Math.max.code 2 (some .int)) (vm_at 7 rfl)) (Nat.le_of_ble_eq_true rfl) (Nat.le_of_ble_eq_true rfl) (Nat.le_of_ble_eq_true rfl) (Nat.le_of_ble_eq_true rfl) dX1_init_7 ?_
  refine lv_topi (fun x1 ex1 => ?_)
  have ex1 : 64 = x1 := (ex1.trans (by decide)).symm
  subst ex1
  refine va_newa (atype := .int) (ty := .int) hx hb (hts (.arrayClass .int) (vm_at 8 rfl)) rfl hK hP hD hS hA (a0 := (64, .inl (fun _ => 0))) (N' := 64) (fun _ => rfl) (by decide) (by decide) (by decide) (Nat.le_of_ble_eq_true rfl) (Nat.le_of_ble_eq_true rfl) dX1_init_10 (fun q2 cA3 H hK9 hP hD hS => ?_)
  have ecA3 := (vx_same .int (fun _ => rfl) hK9 0 3 rfl rfl).symm
  subst ecA3
  refine W.widen (k := 1) (n := 64) (Nat.le_refl _) (Nat.le_refl _) ?_
  have hP : va_P (dC, dI) vwCl [(h0, .inr (0, [.null, .int 0])), (q2, .inl (cI, 64, .inl (fun _ => 0)))] H := hP
  have hD : va_D A [(h0, .inr (0, [.null, .int 0])), (q2, .inl (cI, 64, .inl (fun _ => 0)))] := hD
  refine va_putF (D := (dC, dI)) (ci := 0) (v := .ref q2) (ty := (.array .int)) (C := RX1) (T := TX1) (N := 2) hx hb hts iX1 tyX1 tyX1_ok nmX1 hown hK hP hD hS 0 rfl rfl 0 (by decide) (hts (.fieldLink RX1 13 "NeighboursMark$Numbers" "items" "[I") (vm_at 9 rfl)) (fun _ h9 => h9) rfl hin rfl (tyX1_ok 0 (by decide)) rfl rfl (Nat.le_of_ble_eq_true rfl) dX1_init_12 (fun H locs hP hD hS => ?_)
  have hP : va_P (dC, dI) vwCl [(h0, .inr (0, [.ref q2, .int 0])), (q2, .inl (cI, 64, .inl (fun _ => 0)))] H := hP
  have hD : va_D A [(h0, .inr (0, [.ref q2, .int 0])), (q2, .inl (cI, 64, .inl (fun _ => 0)))] := hD
  refine lv_aload_n hx hb dX1_init_15 rfl (lv_at hl 0 rfl) ?_
  refine lv_iconst (v := 0) hx hb dX1_init_16 (by decide) ?_
  refine va_put (D := (dC, dI)) (ci := 0) (v := .int 0) (ty := .int) (C := RX1) (T := TX1) (N := 2) hx hb hts iX1 tyX1 tyX1_ok nmX1 hown hK hP hD hS 0 rfl rfl 1 (by decide) (hts (.fieldLink RX1 19 "NeighboursMark$Numbers" "size" "I") (vm_at 10 rfl)) (fun _ h9 => h9) rfl (tyX1_ok 1 (by decide)) rfl rfl (Nat.le_of_ble_eq_true rfl) dX1_init_17 (fun H locs hP hD hS => ?_)
  have hP : va_P (dC, dI) vwCl [(h0, .inr (0, [.ref q2, .int 0])), (q2, .inl (cI, 64, .inl (fun _ => 0)))] H := hP
  have hD : va_D A [(h0, .inr (0, [.ref q2, .int 0])), (q2, .inl (cI, 64, .inl (fun _ => 0)))] := hD
  exact vx_vret (u := fun k => ([q2] : List Nat).getD k 0) hx hb hr hlocks hK hP hD hS [0, 1] rfl (by decide) trivial dX1_init_20
set_option maxHeartbeats 4000000 in
set_option maxRecDepth 100000 in
theorem n_Numbers6 (l : Launch) (dC : Nat → ClassId) (dI : Nat → Nat → Nat) (cI cC cZ : ClassId) (sz : Nat) (h0 : Nat) : Met l yX1_init wsX1_init ({ frames := 1, cells := 1, slots := 6, locals := 21 }) (va_Pc [.ref h0, .int 6] (vx_B (dC, dI) (vx_T cI cC cZ) sz [(h0, .inr (0, [.null, .int 0]))])) (va_Qv (fun (_ : Nat → Nat) => True) (vx_C (dC, dI) (vx_T cI cC cZ) (va_A [(h0, .inr (0, [.null, .int 0]))] sz) (fun (u : Nat → Nat) => [(h0, .inr (0, [.ref (u 0), .int 0])), ((u 0), .inl (cI, 6, .inl (fun _ => 0)))])) (va_A [(h0, .inr (0, [.null, .int 0]))] sz)) 1 6 (va_A [(h0, .inr (0, [.null, .int 0]))] sz) := by
  refine Met.ofW (cc := cX1_init) (maxL := 2) (ret := none) (by decide) rfl ?_
  intro p e s m args below meth c s₁ B hml hv
  obtain ⟨rfl, hsz, hP, hK, hD0, hN⟩ := hv
  have hx := B.exec
  have hb := B.bytes
  have hr := B.returns
  have hts := atoms_spec (ws := wsX1_init) B.pre
  have hown : s.vm.findClass RX1 = some m.cls := findClass_of_methodNamed B.named
  have hlocks := B.notSynchronized
  have hin : meth.name = "<init>" := (name_of_methodNamed B.named B.method).1
  subst hsz
  have hD := hD0.self (sz := s.heap.size)
  generalize hAe : va_A [(h0, .inr (0, [.null, .int 0]))] s.heap.size = A at hD hN ⊢
  have hA : ∀ q : Nat, s.heap.size ≤ q → A q := fun q h => by rw [← hAe]; exact Or.inr h
  have hS : va_S A s.heap s.heap [] := va_S.rf
  have hl := lv_entry ([.ref h0, .int 6]) (n := 2) (Nat.le_of_ble_eq_true rfl)
  rw [lg_entry_eq]
  generalize (lg_sl ([.ref h0, .int 6]) ++ List.replicate (2 - (lg_sl ([.ref h0, .int 6])).length) Slot.unset).toArray = ls at hl ⊢
  have hl : lv_has ls 2 [(0, .ref h0), (1, .int 6)] := hl
  have iX1 : ∀ w ∈ u_ws RX1 TX1 2, w ∈ wsX1_init := fun w h => (List.mem_cons_of_mem _ (List.mem_append_right _ h))
  refine lv_aload_n hx hb dX1_init_0 rfl (lv_at hl 0 rfl) ?_
  refine W.objInit hx hb hown (hts (.methodLink RX1 1 objectInit) (vm_at 1 rfl)) (hts (.instanceMethod objectInit) (vm_at 2 rfl)) (hts (.code objectInit ⟨#[0xb1]⟩ 1 none) (vm_at 3 rfl)) rfl (by rw [hml]; exact hl.1) rfl dX1_init_1 (Nat.le_of_ble_eq_true rfl) (Nat.le_of_ble_eq_true rfl) ?_
  refine W.eq (g2 := F0 m 4 ls []) rfl ?_
  refine lv_aload_n hx hb dX1_init_4 rfl (lv_at hl 0 rfl) ?_
  refine lv_iconst (v := 0) hx hb dX1_init_5 (by decide) ?_
  refine lv_iload_n hx hb dX1_init_6 rfl (lv_at hl 1 rfl) ?_
  refine va_mmax hx hb (by rw [hml]; exact hl.1.symm) hown (hts (.methodLink RX1 7 Lib.Math.max.name) (vm_at 4 rfl)) (hts (.static Lib.Math.max.name) (vm_at 5 rfl)) (hts (.initialized "java/lang/Math") (vm_at 6 rfl)) (hts (.code Lib.Math.max.name Lib.Math.max.code 2 (some .int)) (vm_at 7 rfl)) (Nat.le_of_ble_eq_true rfl) (Nat.le_of_ble_eq_true rfl) (Nat.le_of_ble_eq_true rfl) (Nat.le_of_ble_eq_true rfl) dX1_init_7 ?_
  refine lv_topi (fun x1 ex1 => ?_)
  have ex1 : 6 = x1 := (ex1.trans (by decide)).symm
  subst ex1
  refine va_newa (atype := .int) (ty := .int) hx hb (hts (.arrayClass .int) (vm_at 8 rfl)) rfl hK hP hD hS hA (a0 := (6, .inl (fun _ => 0))) (N' := 6) (fun _ => rfl) (by decide) (by decide) (by decide) (Nat.le_of_ble_eq_true rfl) (Nat.le_of_ble_eq_true rfl) dX1_init_10 (fun q2 cA3 H hK9 hP hD hS => ?_)
  have ecA3 := (vx_same .int (fun _ => rfl) hK9 0 3 rfl rfl).symm
  subst ecA3
  refine W.widen (k := 1) (n := 6) (Nat.le_refl _) (Nat.le_refl _) ?_
  have hP : va_P (dC, dI) vwCl [(h0, .inr (0, [.null, .int 0])), (q2, .inl (cI, 6, .inl (fun _ => 0)))] H := hP
  have hD : va_D A [(h0, .inr (0, [.null, .int 0])), (q2, .inl (cI, 6, .inl (fun _ => 0)))] := hD
  refine va_putF (D := (dC, dI)) (ci := 0) (v := .ref q2) (ty := (.array .int)) (C := RX1) (T := TX1) (N := 2) hx hb hts iX1 tyX1 tyX1_ok nmX1 hown hK hP hD hS 0 rfl rfl 0 (by decide) (hts (.fieldLink RX1 13 "NeighboursMark$Numbers" "items" "[I") (vm_at 9 rfl)) (fun _ h9 => h9) rfl hin rfl (tyX1_ok 0 (by decide)) rfl rfl (Nat.le_of_ble_eq_true rfl) dX1_init_12 (fun H locs hP hD hS => ?_)
  have hP : va_P (dC, dI) vwCl [(h0, .inr (0, [.ref q2, .int 0])), (q2, .inl (cI, 6, .inl (fun _ => 0)))] H := hP
  have hD : va_D A [(h0, .inr (0, [.ref q2, .int 0])), (q2, .inl (cI, 6, .inl (fun _ => 0)))] := hD
  refine lv_aload_n hx hb dX1_init_15 rfl (lv_at hl 0 rfl) ?_
  refine lv_iconst (v := 0) hx hb dX1_init_16 (by decide) ?_
  refine va_put (D := (dC, dI)) (ci := 0) (v := .int 0) (ty := .int) (C := RX1) (T := TX1) (N := 2) hx hb hts iX1 tyX1 tyX1_ok nmX1 hown hK hP hD hS 0 rfl rfl 1 (by decide) (hts (.fieldLink RX1 19 "NeighboursMark$Numbers" "size" "I") (vm_at 10 rfl)) (fun _ h9 => h9) rfl (tyX1_ok 1 (by decide)) rfl rfl (Nat.le_of_ble_eq_true rfl) dX1_init_17 (fun H locs hP hD hS => ?_)
  have hP : va_P (dC, dI) vwCl [(h0, .inr (0, [.ref q2, .int 0])), (q2, .inl (cI, 6, .inl (fun _ => 0)))] H := hP
  have hD : va_D A [(h0, .inr (0, [.ref q2, .int 0])), (q2, .inl (cI, 6, .inl (fun _ => 0)))] := hD
  exact vx_vret (u := fun k => ([q2] : List Nat).getD k 0) hx hb hr hlocks hK hP hD hS [0, 1] rfl (by decide) trivial dX1_init_20
set_option maxHeartbeats 4000000 in
set_option maxRecDepth 100000 in
theorem n_Numbers0 (l : Launch) (dC : Nat → ClassId) (dI : Nat → Nat → Nat) (cI cC cZ : ClassId) (sz : Nat) (h0 : Nat) : Met l yX1_init wsX1_init ({ frames := 1, cells := 1, slots := 0, locals := 21 }) (va_Pc [.ref h0, .int 0] (vx_B (dC, dI) (vx_T cI cC cZ) sz [(h0, .inr (0, [.null, .int 0]))])) (va_Qv (fun (_ : Nat → Nat) => True) (vx_C (dC, dI) (vx_T cI cC cZ) (va_A [(h0, .inr (0, [.null, .int 0]))] sz) (fun (u : Nat → Nat) => [(h0, .inr (0, [.ref (u 0), .int 0])), ((u 0), .inl (cI, 0, .inl (fun _ => 0)))])) (va_A [(h0, .inr (0, [.null, .int 0]))] sz)) 1 0 (va_A [(h0, .inr (0, [.null, .int 0]))] sz) := by
  refine Met.ofW (cc := cX1_init) (maxL := 2) (ret := none) (by decide) rfl ?_
  intro p e s m args below meth c s₁ B hml hv
  obtain ⟨rfl, hsz, hP, hK, hD0, hN⟩ := hv
  have hx := B.exec
  have hb := B.bytes
  have hr := B.returns
  have hts := atoms_spec (ws := wsX1_init) B.pre
  have hown : s.vm.findClass RX1 = some m.cls := findClass_of_methodNamed B.named
  have hlocks := B.notSynchronized
  have hin : meth.name = "<init>" := (name_of_methodNamed B.named B.method).1
  subst hsz
  have hD := hD0.self (sz := s.heap.size)
  generalize hAe : va_A [(h0, .inr (0, [.null, .int 0]))] s.heap.size = A at hD hN ⊢
  have hA : ∀ q : Nat, s.heap.size ≤ q → A q := fun q h => by rw [← hAe]; exact Or.inr h
  have hS : va_S A s.heap s.heap [] := va_S.rf
  have hl := lv_entry ([.ref h0, .int 0]) (n := 2) (Nat.le_of_ble_eq_true rfl)
  rw [lg_entry_eq]
  generalize (lg_sl ([.ref h0, .int 0]) ++ List.replicate (2 - (lg_sl ([.ref h0, .int 0])).length) Slot.unset).toArray = ls at hl ⊢
  have hl : lv_has ls 2 [(0, .ref h0), (1, .int 0)] := hl
  have iX1 : ∀ w ∈ u_ws RX1 TX1 2, w ∈ wsX1_init := fun w h => (List.mem_cons_of_mem _ (List.mem_append_right _ h))
  refine lv_aload_n hx hb dX1_init_0 rfl (lv_at hl 0 rfl) ?_
  refine W.objInit hx hb hown (hts (.methodLink RX1 1 objectInit) (vm_at 1 rfl)) (hts (.instanceMethod objectInit) (vm_at 2 rfl)) (hts (.code objectInit ⟨#[0xb1]⟩ 1 none) (vm_at 3 rfl)) rfl (by rw [hml]; exact hl.1) rfl dX1_init_1 (Nat.le_of_ble_eq_true rfl) (Nat.le_of_ble_eq_true rfl) ?_
  refine W.eq (g2 := F0 m 4 ls []) rfl ?_
  refine lv_aload_n hx hb dX1_init_4 rfl (lv_at hl 0 rfl) ?_
  refine lv_iconst (v := 0) hx hb dX1_init_5 (by decide) ?_
  refine lv_iload_n hx hb dX1_init_6 rfl (lv_at hl 1 rfl) ?_
  refine va_mmax hx hb (by rw [hml]; exact hl.1.symm) hown (hts (.methodLink RX1 7 Lib.Math.max.name) (vm_at 4 rfl)) (hts (.static Lib.Math.max.name) (vm_at 5 rfl)) (hts (.initialized "java/lang/Math") (vm_at 6 rfl)) (hts (.code Lib.Math.max.name Lib.Math.max.code 2 (some .int)) (vm_at 7 rfl)) (Nat.le_of_ble_eq_true rfl) (Nat.le_of_ble_eq_true rfl) (Nat.le_of_ble_eq_true rfl) (Nat.le_of_ble_eq_true rfl) dX1_init_7 ?_
  refine lv_topi (fun x1 ex1 => ?_)
  have ex1 : 0 = x1 := (ex1.trans (by decide)).symm
  subst ex1
  refine va_newa (atype := .int) (ty := .int) hx hb (hts (.arrayClass .int) (vm_at 8 rfl)) rfl hK hP hD hS hA (a0 := (0, .inl (fun _ => 0))) (N' := 0) (fun _ => rfl) (by decide) (by decide) (by decide) (Nat.le_of_ble_eq_true rfl) (Nat.le_of_ble_eq_true rfl) dX1_init_10 (fun q2 cA3 H hK9 hP hD hS => ?_)
  have ecA3 := (vx_same .int (fun _ => rfl) hK9 0 3 rfl rfl).symm
  subst ecA3
  refine W.widen (k := 1) (n := 0) (Nat.le_refl _) (Nat.le_refl _) ?_
  have hP : va_P (dC, dI) vwCl [(h0, .inr (0, [.null, .int 0])), (q2, .inl (cI, 0, .inl (fun _ => 0)))] H := hP
  have hD : va_D A [(h0, .inr (0, [.null, .int 0])), (q2, .inl (cI, 0, .inl (fun _ => 0)))] := hD
  refine va_putF (D := (dC, dI)) (ci := 0) (v := .ref q2) (ty := (.array .int)) (C := RX1) (T := TX1) (N := 2) hx hb hts iX1 tyX1 tyX1_ok nmX1 hown hK hP hD hS 0 rfl rfl 0 (by decide) (hts (.fieldLink RX1 13 "NeighboursMark$Numbers" "items" "[I") (vm_at 9 rfl)) (fun _ h9 => h9) rfl hin rfl (tyX1_ok 0 (by decide)) rfl rfl (Nat.le_of_ble_eq_true rfl) dX1_init_12 (fun H locs hP hD hS => ?_)
  have hP : va_P (dC, dI) vwCl [(h0, .inr (0, [.ref q2, .int 0])), (q2, .inl (cI, 0, .inl (fun _ => 0)))] H := hP
  have hD : va_D A [(h0, .inr (0, [.ref q2, .int 0])), (q2, .inl (cI, 0, .inl (fun _ => 0)))] := hD
  refine lv_aload_n hx hb dX1_init_15 rfl (lv_at hl 0 rfl) ?_
  refine lv_iconst (v := 0) hx hb dX1_init_16 (by decide) ?_
  refine va_put (D := (dC, dI)) (ci := 0) (v := .int 0) (ty := .int) (C := RX1) (T := TX1) (N := 2) hx hb hts iX1 tyX1 tyX1_ok nmX1 hown hK hP hD hS 0 rfl rfl 1 (by decide) (hts (.fieldLink RX1 19 "NeighboursMark$Numbers" "size" "I") (vm_at 10 rfl)) (fun _ h9 => h9) rfl (tyX1_ok 1 (by decide)) rfl rfl (Nat.le_of_ble_eq_true rfl) dX1_init_17 (fun H locs hP hD hS => ?_)
  have hP : va_P (dC, dI) vwCl [(h0, .inr (0, [.ref q2, .int 0])), (q2, .inl (cI, 0, .inl (fun _ => 0)))] H := hP
  have hD : va_D A [(h0, .inr (0, [.ref q2, .int 0])), (q2, .inl (cI, 0, .inl (fun _ => 0)))] := hD
  exact vx_vret (u := fun k => ([q2] : List Nat).getD k 0) hx hb hr hlocks hK hP hD hS [0, 1] rfl (by decide) trivial dX1_init_20
set_option maxHeartbeats 4000000 in
set_option maxRecDepth 100000 in
theorem n_Reader (l : Launch) (dC : Nat → ClassId) (dI : Nat → Nat → Nat) (cI cC cZ : ClassId) (sz : Nat) (h0 : Nat) : Met l yX2_init wsX2_init ({ frames := 2, cells := 2, slots := 2, locals := 42 }) (va_Pc [.ref h0] (vx_B (dC, dI) (vx_T cI cC cZ) sz [(h0, .inr (1, [.null, .int 0]))])) (va_Qv (fun (_ : Nat → Nat) => True) (vx_C (dC, dI) (vx_T cI cC cZ) (va_A [(h0, .inr (1, [.null, .int 0]))] sz) (fun (u : Nat → Nat) => [(h0, .inr (1, [.ref (u 0), .int 0])), ((u 0), .inr (0, [.ref (u 1), .int 0])), ((u 1), .inl (cI, 0, .inl (fun _ => 0)))])) (va_A [(h0, .inr (1, [.null, .int 0]))] sz)) 2 2 (va_A [(h0, .inr (1, [.null, .int 0]))] sz) := by
  refine Met.ofW (cc := cX2_init) (maxL := 1) (ret := none) (by decide) rfl ?_
  intro p e s m args below meth c s₁ B hml hv
  obtain ⟨rfl, hsz, hP, hK, hD0, hN⟩ := hv
  have hx := B.exec
  have hb := B.bytes
  have hr := B.returns
  have hts := atoms_spec (ws := wsX2_init) B.pre
  have hown : s.vm.findClass RX2 = some m.cls := findClass_of_methodNamed B.named
  have hlocks := B.notSynchronized
  have hin : meth.name = "<init>" := (name_of_methodNamed B.named B.method).1
  subst hsz
  have hD := hD0.self (sz := s.heap.size)
  generalize hAe : va_A [(h0, .inr (1, [.null, .int 0]))] s.heap.size = A at hD hN ⊢
  have hA : ∀ q : Nat, s.heap.size ≤ q → A q := fun q h => by rw [← hAe]; exact Or.inr h
  have hS : va_S A s.heap s.heap [] := va_S.rf
  have hl := lv_entry ([.ref h0]) (n := 1) (Nat.le_of_ble_eq_true rfl)
  rw [lg_entry_eq]
  generalize (lg_sl ([.ref h0]) ++ List.replicate (1 - (lg_sl ([.ref h0])).length) Slot.unset).toArray = ls at hl ⊢
  have hl : lv_has ls 1 [(0, .ref h0)] := hl
  have iX1 : ∀ w ∈ u_ws RX1 TX1 2, w ∈ wsX2_init := fun w h => (List.mem_cons_of_mem _ (List.mem_append_left _ (List.mem_append_right _ h)))
  have iX2 : ∀ w ∈ u_ws RX2 TX2 2, w ∈ wsX2_init := fun w h => (List.mem_cons_of_mem _ (List.mem_append_right _ h))
  refine lv_aload_n hx hb dX2_init_0 rfl (lv_at hl 0 rfl) ?_
  refine W.objInit hx hb hown (hts (.methodLink RX2 3 objectInit) (vm_at 1 rfl)) (hts (.instanceMethod objectInit) (vm_at 2 rfl)) (hts (.code objectInit ⟨#[0xb1]⟩ 1 none) (vm_at 3 rfl)) rfl (by rw [hml]; exact hl.1) rfl dX2_init_1 (Nat.le_of_ble_eq_true rfl) (Nat.le_of_ble_eq_true rfl) ?_
  refine W.eq (g2 := F0 m 4 ls []) rfl ?_
  refine lv_aload_n hx hb dX2_init_4 rfl (lv_at hl 0 rfl) ?_
  refine va_new (ci := 0) (fs := [.null, .int 0]) (C := RX1) (T := TX1) (N := 2) hx hb hts iX1 tyX1 tyX1_ok hown (hts (.classLink RX2 9 RX1) (vm_at 4 rfl)) (hts (.instantiable RX1 2) (vm_at 5 rfl)) (hts (.initialized RX1) (vm_at 6 rfl)) hK hP hD hS hA rfl (fun j hj => by rcases (show j = 0 ∨ j = 1 by omega) with rfl | rfl <;> rfl) (Nat.le_of_ble_eq_true rfl) (Nat.le_of_ble_eq_true rfl) dX2_init_5 (fun q1 H hP hD hS => ?_)
  refine W.widen (k := 1) (n := 2) (Nat.le_refl _) (Nat.le_refl _) ?_
  have hP : va_P (dC, dI) vwCl [(h0, .inr (1, [.null, .int 0])), (q1, .inr (0, [.null, .int 0]))] H := hP
  have hD : va_D A [(h0, .inr (1, [.null, .int 0])), (q1, .inr (0, [.null, .int 0]))] := hD
  refine lv_dup hx hb dX2_init_8 rfl ?_
  refine lv_iconst (v := 0) hx hb dX2_init_9 (by decide) ?_
  have hPc := hP.sub (ws' := [(q1, .inr (0, [.null, .int 0]))]) [1] rfl
  have hDc := hD.sub (ws' := [(q1, .inr (0, [.null, .int 0]))]) [1] (by decide) rfl
  have hFc := va_free (wc := [(q1, .inr (0, [.null, .int 0]))]) hD hS hA [1] rfl
  refine vx_callv (wc := [(q1, .inr (0, [.null, .int 0]))]) (wr := [(h0, .inr (1, [.null, .int 0]))]) hP hD hS hA [1] [0] rfl rfl (by decide) (by decide) (va_runI (As := [.int 0]) (rest := [.ref q1, .ref h0]) ⟨hx, hb, hml, hown, hts⟩ (n_Numbers0 l dC dI cI cC cZ _ q1) (cwI 1 hts gX2_init_X1_init rfl rfl rfl (hts (.initialized RX1) (vm_at 6 rfl)) (hts (.methodLink RX2 11 yX1_init) (vm_at 9 rfl)) (hts (.instanceMethod yX1_init) (vm_at 10 rfl)) rfl hv_yX1_init.2 ⟨Nat.le_of_ble_eq_true rfl, Nat.le_of_ble_eq_true rfl⟩) ⟨vx_blind, vx_pre hK hPc hDc hN hS hFc⟩ rfl rfl hl.1 rfl (lv_room (Nat.le_of_ble_eq_true rfl)) dX2_init_10 ⟨Nat.le_of_ble_eq_true rfl, Nat.le_of_ble_eq_true rfl⟩) (fun u2 H locs hw4 hP hD hS => ?_)
  refine W.widen (k := 2) (n := 2) (Nat.le_refl _) (Nat.le_refl _) ?_
  have hP : va_P (dC, dI) vwCl [(h0, .inr (1, [.null, .int 0])), (q1, .inr (0, [.ref (u2 0), .int 0])), ((u2 0), .inl (cI, 0, .inl (fun _ => 0)))] H := hP
  have hD : va_D A [(h0, .inr (1, [.null, .int 0])), (q1, .inr (0, [.ref (u2 0), .int 0])), ((u2 0), .inl (cI, 0, .inl (fun _ => 0)))] := hD
  refine va_put (D := (dC, dI)) (ci := 1) (v := .ref q1) (ty := (.object "NeighboursMark$Numbers")) (C := RX2) (T := TX2) (N := 2) hx hb hts iX2 tyX2 tyX2_ok nmX2 hown hK hP hD hS 0 rfl rfl 0 (by decide) (hts (.fieldLink RX2 14 "NeighboursMark$Reader" "text" "LNeighboursMark$Numbers;") (vm_at 7 rfl)) (fun _ h9 => h9) rfl (tyX2_ok 0 (by decide)) rfl rfl (Nat.le_of_ble_eq_true rfl) dX2_init_13 (fun H locs hP hD hS => ?_)
  have hP : va_P (dC, dI) vwCl [(h0, .inr (1, [.ref q1, .int 0])), (q1, .inr (0, [.ref (u2 0), .int 0])), ((u2 0), .inl (cI, 0, .inl (fun _ => 0)))] H := hP
  have hD : va_D A [(h0, .inr (1, [.ref q1, .int 0])), (q1, .inr (0, [.ref (u2 0), .int 0])), ((u2 0), .inl (cI, 0, .inl (fun _ => 0)))] := hD
  refine lv_aload_n hx hb dX2_init_16 rfl (lv_at hl 0 rfl) ?_
  refine lv_iconst (v := 0) hx hb dX2_init_17 (by decide) ?_
  refine va_put (D := (dC, dI)) (ci := 1) (v := .int 0) (ty := .int) (C := RX2) (T := TX2) (N := 2) hx hb hts iX2 tyX2 tyX2_ok nmX2 hown hK hP hD hS 0 rfl rfl 1 (by decide) (hts (.fieldLink RX2 20 "NeighboursMark$Reader" "place" "I") (vm_at 8 rfl)) (fun _ h9 => h9) rfl (tyX2_ok 1 (by decide)) rfl rfl (Nat.le_of_ble_eq_true rfl) dX2_init_18 (fun H locs hP hD hS => ?_)
  have hP : va_P (dC, dI) vwCl [(h0, .inr (1, [.ref q1, .int 0])), (q1, .inr (0, [.ref (u2 0), .int 0])), ((u2 0), .inl (cI, 0, .inl (fun _ => 0)))] H := hP
  have hD : va_D A [(h0, .inr (1, [.ref q1, .int 0])), (q1, .inr (0, [.ref (u2 0), .int 0])), ((u2 0), .inl (cI, 0, .inl (fun _ => 0)))] := hD
  exact vx_vret (u := fun k => ([q1, (u2 0)] : List Nat).getD k 0) hx hb hr hlocks hK hP hD hS [0, 1, 2] rfl (by decide) trivial dX2_init_21
set_option maxHeartbeats 4000000 in
set_option maxRecDepth 100000 in
theorem n_Seatings (l : Launch) (dC : Nat → ClassId) (dI : Nat → Nat → Nat) (cI cC cZ : ClassId) (sz : Nat) (h0 : Nat) : Met l yX4_init wsX4_init ({ frames := 2, cells := 12, slots := 82, locals := 32 }) (va_Pc [.ref h0] (vx_B (dC, dI) (vx_T cI cC cZ) sz [(h0, .inr (3, [.null, .null, .int 0, .int 0, .int 0]))])) (va_Qv (fun (_ : Nat → Nat) => True) (vx_C (dC, dI) (vx_T cI cC cZ) (va_A [(h0, .inr (3, [.null, .null, .int 0, .int 0, .int 0]))] sz) (fun (u : Nat → Nat) => [(h0, .inr (3, [.ref (u 0), .ref (u 1), .int 0, .int 0, .int 0])), ((u 0), .inr (2, [.int 0, .int 2, .int 1, .int 10, .int 0, .int 1, .ref (u 2), .ref (u 3), .ref (u 4), .ref (u 5), .ref (u 6), .ref (u 7), .ref (u 8), .ref (u 9), .ref (u 10), .ref (u 11)])), ((u 2), .inl (cI, 6, .inl (fun _ => 0))), ((u 3), .inl (cI, 6, .inl (fun _ => 0))), ((u 4), .inl (cI, 6, .inl (fun _ => 0))), ((u 5), .inl (cI, 6, .inl (fun _ => 0))), ((u 6), .inl (cI, 6, .inl (fun _ => 0))), ((u 7), .inl (cI, 6, .inl (fun _ => 0))), ((u 8), .inl (cI, 6, .inl (fun _ => 0))), ((u 9), .inl (cI, 6, .inl (fun _ => 0))), ((u 10), .inl (cI, 6, .inl (fun _ => 0))), ((u 11), .inl (cI, 6, .inl (fun _ => 0))), ((u 1), .inl (cI, 6, .inl (fun _ => 0)))])) (va_A [(h0, .inr (3, [.null, .null, .int 0, .int 0, .int 0]))] sz)) 12 82 (va_A [(h0, .inr (3, [.null, .null, .int 0, .int 0, .int 0]))] sz) := by
  refine Met.ofW (cc := cX4_init) (maxL := 1) (ret := none) (by decide) rfl ?_
  intro p e s m args below meth c s₁ B hml hv
  obtain ⟨rfl, hsz, hP, hK, hD0, hN⟩ := hv
  have hx := B.exec
  have hb := B.bytes
  have hr := B.returns
  have hts := atoms_spec (ws := wsX4_init) B.pre
  have hown : s.vm.findClass RX4 = some m.cls := findClass_of_methodNamed B.named
  have hlocks := B.notSynchronized
  have hin : meth.name = "<init>" := (name_of_methodNamed B.named B.method).1
  subst hsz
  have hD := hD0.self (sz := s.heap.size)
  generalize hAe : va_A [(h0, .inr (3, [.null, .null, .int 0, .int 0, .int 0]))] s.heap.size = A at hD hN ⊢
  have hA : ∀ q : Nat, s.heap.size ≤ q → A q := fun q h => by rw [← hAe]; exact Or.inr h
  have hS : va_S A s.heap s.heap [] := va_S.rf
  have hl := lv_entry ([.ref h0]) (n := 1) (Nat.le_of_ble_eq_true rfl)
  rw [lg_entry_eq]
  generalize (lg_sl ([.ref h0]) ++ List.replicate (1 - (lg_sl ([.ref h0])).length) Slot.unset).toArray = ls at hl ⊢
  have hl : lv_has ls 1 [(0, .ref h0)] := hl
  have iX3 : ∀ w ∈ u_ws RX3 TX3 16, w ∈ wsX4_init := fun w h => (List.mem_cons_of_mem _ (List.mem_append_left _ (List.mem_append_right _ h)))
  have iX4 : ∀ w ∈ u_ws RX4 TX4 5, w ∈ wsX4_init := fun w h => (List.mem_cons_of_mem _ (List.mem_append_right _ h))
  refine lv_aload_n hx hb dX4_init_0 rfl (lv_at hl 0 rfl) ?_
  refine W.objInit hx hb hown (hts (.methodLink RX4 3 objectInit) (vm_at 1 rfl)) (hts (.instanceMethod objectInit) (vm_at 2 rfl)) (hts (.code objectInit ⟨#[0xb1]⟩ 1 none) (vm_at 3 rfl)) rfl (by rw [hml]; exact hl.1) rfl dX4_init_1 (Nat.le_of_ble_eq_true rfl) (Nat.le_of_ble_eq_true rfl) ?_
  refine W.eq (g2 := F0 m 4 ls []) rfl ?_
  refine lv_aload_n hx hb dX4_init_4 rfl (lv_at hl 0 rfl) ?_
  refine va_new (ci := 2) (fs := [.int 0, .int 0, .int 0, .int 0, .int 0, .int 0, .null, .null, .null, .null, .null, .null, .null, .null, .null, .null]) (C := RX3) (T := TX3) (N := 16) hx hb hts iX3 tyX3 tyX3_ok hown (hts (.classLink RX4 9 RX3) (vm_at 4 rfl)) (hts (.instantiable RX3 16) (vm_at 5 rfl)) (hts (.initialized RX3) (vm_at 6 rfl)) hK hP hD hS hA rfl (fun j hj => by rcases (show j = 0 ∨ j = 1 ∨ j = 2 ∨ j = 3 ∨ j = 4 ∨ j = 5 ∨ j = 6 ∨ j = 7 ∨ j = 8 ∨ j = 9 ∨ j = 10 ∨ j = 11 ∨ j = 12 ∨ j = 13 ∨ j = 14 ∨ j = 15 by omega) with rfl | rfl | rfl | rfl | rfl | rfl | rfl | rfl | rfl | rfl | rfl | rfl | rfl | rfl | rfl | rfl <;> rfl) (Nat.le_of_ble_eq_true rfl) (Nat.le_of_ble_eq_true rfl) dX4_init_5 (fun q1 H hP hD hS => ?_)
  refine W.widen (k := 1) (n := 16) (Nat.le_refl _) (Nat.le_refl _) ?_
  have hP : va_P (dC, dI) vwCl [(h0, .inr (3, [.null, .null, .int 0, .int 0, .int 0])), (q1, .inr (2, [.int 0, .int 0, .int 0, .int 0, .int 0, .int 0, .null, .null, .null, .null, .null, .null, .null, .null, .null, .null]))] H := hP
  have hD : va_D A [(h0, .inr (3, [.null, .null, .int 0, .int 0, .int 0])), (q1, .inr (2, [.int 0, .int 0, .int 0, .int 0, .int 0, .int 0, .null, .null, .null, .null, .null, .null, .null, .null, .null, .null]))] := hD
  refine lv_dup hx hb dX4_init_8 rfl ?_
  have hPc := hP.sub (ws' := [(q1, .inr (2, [.int 0, .int 0, .int 0, .int 0, .int 0, .int 0, .null, .null, .null, .null, .null, .null, .null, .null, .null, .null]))]) [1] rfl
  have hDc := hD.sub (ws' := [(q1, .inr (2, [.int 0, .int 0, .int 0, .int 0, .int 0, .int 0, .null, .null, .null, .null, .null, .null, .null, .null, .null, .null]))]) [1] (by decide) rfl
  have hFc := va_free (wc := [(q1, .inr (2, [.int 0, .int 0, .int 0, .int 0, .int 0, .int 0, .null, .null, .null, .null, .null, .null, .null, .null, .null, .null]))]) hD hS hA [1] rfl
  refine vx_callv (wc := [(q1, .inr (2, [.int 0, .int 0, .int 0, .int 0, .int 0, .int 0, .null, .null, .null, .null, .null, .null, .null, .null, .null, .null]))]) (wr := [(h0, .inr (3, [.null, .null, .int 0, .int 0, .int 0]))]) hP hD hS hA [1] [0] rfl rfl (by decide) (by decide) (va_runI (As := []) (rest := [.ref q1, .ref h0]) ⟨hx, hb, hml, hown, hts⟩ (n_School l dC dI cI cC cZ _ q1) (cwI 0 hts gX4_init_X3_init rfl rfl rfl (hts (.initialized RX3) (vm_at 6 rfl)) (hts (.methodLink RX4 11 yX3_init) (vm_at 13 rfl)) (hts (.instanceMethod yX3_init) (vm_at 14 rfl)) rfl hv_yX3_init.2 ⟨Nat.le_of_ble_eq_true rfl, Nat.le_of_ble_eq_true rfl⟩) ⟨vx_blind, vx_pre hK hPc hDc hN hS hFc⟩ rfl rfl hl.1 rfl (lv_room (Nat.le_of_ble_eq_true rfl)) dX4_init_9 ⟨Nat.le_of_ble_eq_true rfl, Nat.le_of_ble_eq_true rfl⟩) (fun u2 H locs hw4 hP hD hS => ?_)
  refine W.widen (k := 11) (n := 76) (Nat.le_refl _) (Nat.le_refl _) ?_
  have hP : va_P (dC, dI) vwCl [(h0, .inr (3, [.null, .null, .int 0, .int 0, .int 0])), (q1, .inr (2, [.int 0, .int 2, .int 1, .int 10, .int 0, .int 1, .ref (u2 0), .ref (u2 1), .ref (u2 2), .ref (u2 3), .ref (u2 4), .ref (u2 5), .ref (u2 6), .ref (u2 7), .ref (u2 8), .ref (u2 9)])), ((u2 0), .inl (cI, 6, .inl (fun _ => 0))), ((u2 1), .inl (cI, 6, .inl (fun _ => 0))), ((u2 2), .inl (cI, 6, .inl (fun _ => 0))), ((u2 3), .inl (cI, 6, .inl (fun _ => 0))), ((u2 4), .inl (cI, 6, .inl (fun _ => 0))), ((u2 5), .inl (cI, 6, .inl (fun _ => 0))), ((u2 6), .inl (cI, 6, .inl (fun _ => 0))), ((u2 7), .inl (cI, 6, .inl (fun _ => 0))), ((u2 8), .inl (cI, 6, .inl (fun _ => 0))), ((u2 9), .inl (cI, 6, .inl (fun _ => 0)))] H := hP
  have hD : va_D A [(h0, .inr (3, [.null, .null, .int 0, .int 0, .int 0])), (q1, .inr (2, [.int 0, .int 2, .int 1, .int 10, .int 0, .int 1, .ref (u2 0), .ref (u2 1), .ref (u2 2), .ref (u2 3), .ref (u2 4), .ref (u2 5), .ref (u2 6), .ref (u2 7), .ref (u2 8), .ref (u2 9)])), ((u2 0), .inl (cI, 6, .inl (fun _ => 0))), ((u2 1), .inl (cI, 6, .inl (fun _ => 0))), ((u2 2), .inl (cI, 6, .inl (fun _ => 0))), ((u2 3), .inl (cI, 6, .inl (fun _ => 0))), ((u2 4), .inl (cI, 6, .inl (fun _ => 0))), ((u2 5), .inl (cI, 6, .inl (fun _ => 0))), ((u2 6), .inl (cI, 6, .inl (fun _ => 0))), ((u2 7), .inl (cI, 6, .inl (fun _ => 0))), ((u2 8), .inl (cI, 6, .inl (fun _ => 0))), ((u2 9), .inl (cI, 6, .inl (fun _ => 0)))] := hD
  refine va_putF (D := (dC, dI)) (ci := 3) (v := .ref q1) (ty := (.object "NeighboursMark$School")) (C := RX4) (T := TX4) (N := 5) hx hb hts iX4 tyX4 tyX4_ok nmX4 hown hK hP hD hS 0 rfl rfl 0 (by decide) (hts (.fieldLink RX4 12 "NeighboursMark$Seatings" "mind" "LNeighboursMark$School;") (vm_at 7 rfl)) (fun _ h9 => h9) rfl hin rfl (tyX4_ok 0 (by decide)) rfl rfl (Nat.le_of_ble_eq_true rfl) dX4_init_12 (fun H locs hP hD hS => ?_)
  have hP : va_P (dC, dI) vwCl [(h0, .inr (3, [.ref q1, .null, .int 0, .int 0, .int 0])), (q1, .inr (2, [.int 0, .int 2, .int 1, .int 10, .int 0, .int 1, .ref (u2 0), .ref (u2 1), .ref (u2 2), .ref (u2 3), .ref (u2 4), .ref (u2 5), .ref (u2 6), .ref (u2 7), .ref (u2 8), .ref (u2 9)])), ((u2 0), .inl (cI, 6, .inl (fun _ => 0))), ((u2 1), .inl (cI, 6, .inl (fun _ => 0))), ((u2 2), .inl (cI, 6, .inl (fun _ => 0))), ((u2 3), .inl (cI, 6, .inl (fun _ => 0))), ((u2 4), .inl (cI, 6, .inl (fun _ => 0))), ((u2 5), .inl (cI, 6, .inl (fun _ => 0))), ((u2 6), .inl (cI, 6, .inl (fun _ => 0))), ((u2 7), .inl (cI, 6, .inl (fun _ => 0))), ((u2 8), .inl (cI, 6, .inl (fun _ => 0))), ((u2 9), .inl (cI, 6, .inl (fun _ => 0)))] H := hP
  have hD : va_D A [(h0, .inr (3, [.ref q1, .null, .int 0, .int 0, .int 0])), (q1, .inr (2, [.int 0, .int 2, .int 1, .int 10, .int 0, .int 1, .ref (u2 0), .ref (u2 1), .ref (u2 2), .ref (u2 3), .ref (u2 4), .ref (u2 5), .ref (u2 6), .ref (u2 7), .ref (u2 8), .ref (u2 9)])), ((u2 0), .inl (cI, 6, .inl (fun _ => 0))), ((u2 1), .inl (cI, 6, .inl (fun _ => 0))), ((u2 2), .inl (cI, 6, .inl (fun _ => 0))), ((u2 3), .inl (cI, 6, .inl (fun _ => 0))), ((u2 4), .inl (cI, 6, .inl (fun _ => 0))), ((u2 5), .inl (cI, 6, .inl (fun _ => 0))), ((u2 6), .inl (cI, 6, .inl (fun _ => 0))), ((u2 7), .inl (cI, 6, .inl (fun _ => 0))), ((u2 8), .inl (cI, 6, .inl (fun _ => 0))), ((u2 9), .inl (cI, 6, .inl (fun _ => 0)))] := hD
  refine lv_aload_n hx hb dX4_init_15 rfl (lv_at hl 0 rfl) ?_
  refine lv_bipush (v := 6) hx hb dX4_init_16 (by decide) ?_
  refine va_newa (atype := .int) (ty := .int) hx hb (hts (.arrayClass .int) (vm_at 8 rfl)) rfl hK hP hD hS hA (a0 := (6, .inl (fun _ => 0))) (N' := 6) (fun _ => rfl) (by decide) (by decide) (by decide) (Nat.le_of_ble_eq_true rfl) (Nat.le_of_ble_eq_true rfl) dX4_init_18 (fun q5 cA6 H hK9 hP hD hS => ?_)
  have ecA6 := (vx_same .int (fun _ => rfl) hK9 0 3 rfl rfl).symm
  subst ecA6
  refine W.widen (k := 12) (n := 82) (Nat.le_refl _) (Nat.le_refl _) ?_
  have hP : va_P (dC, dI) vwCl [(h0, .inr (3, [.ref q1, .null, .int 0, .int 0, .int 0])), (q1, .inr (2, [.int 0, .int 2, .int 1, .int 10, .int 0, .int 1, .ref (u2 0), .ref (u2 1), .ref (u2 2), .ref (u2 3), .ref (u2 4), .ref (u2 5), .ref (u2 6), .ref (u2 7), .ref (u2 8), .ref (u2 9)])), ((u2 0), .inl (cI, 6, .inl (fun _ => 0))), ((u2 1), .inl (cI, 6, .inl (fun _ => 0))), ((u2 2), .inl (cI, 6, .inl (fun _ => 0))), ((u2 3), .inl (cI, 6, .inl (fun _ => 0))), ((u2 4), .inl (cI, 6, .inl (fun _ => 0))), ((u2 5), .inl (cI, 6, .inl (fun _ => 0))), ((u2 6), .inl (cI, 6, .inl (fun _ => 0))), ((u2 7), .inl (cI, 6, .inl (fun _ => 0))), ((u2 8), .inl (cI, 6, .inl (fun _ => 0))), ((u2 9), .inl (cI, 6, .inl (fun _ => 0))), (q5, .inl (cI, 6, .inl (fun _ => 0)))] H := hP
  have hD : va_D A [(h0, .inr (3, [.ref q1, .null, .int 0, .int 0, .int 0])), (q1, .inr (2, [.int 0, .int 2, .int 1, .int 10, .int 0, .int 1, .ref (u2 0), .ref (u2 1), .ref (u2 2), .ref (u2 3), .ref (u2 4), .ref (u2 5), .ref (u2 6), .ref (u2 7), .ref (u2 8), .ref (u2 9)])), ((u2 0), .inl (cI, 6, .inl (fun _ => 0))), ((u2 1), .inl (cI, 6, .inl (fun _ => 0))), ((u2 2), .inl (cI, 6, .inl (fun _ => 0))), ((u2 3), .inl (cI, 6, .inl (fun _ => 0))), ((u2 4), .inl (cI, 6, .inl (fun _ => 0))), ((u2 5), .inl (cI, 6, .inl (fun _ => 0))), ((u2 6), .inl (cI, 6, .inl (fun _ => 0))), ((u2 7), .inl (cI, 6, .inl (fun _ => 0))), ((u2 8), .inl (cI, 6, .inl (fun _ => 0))), ((u2 9), .inl (cI, 6, .inl (fun _ => 0))), (q5, .inl (cI, 6, .inl (fun _ => 0)))] := hD
  refine va_putF (D := (dC, dI)) (ci := 3) (v := .ref q5) (ty := (.array .int)) (C := RX4) (T := TX4) (N := 5) hx hb hts iX4 tyX4 tyX4_ok nmX4 hown hK hP hD hS 0 rfl rfl 1 (by decide) (hts (.fieldLink RX4 18 "NeighboursMark$Seatings" "chosen" "[I") (vm_at 9 rfl)) (fun _ h9 => h9) rfl hin rfl (tyX4_ok 1 (by decide)) rfl rfl (Nat.le_of_ble_eq_true rfl) dX4_init_20 (fun H locs hP hD hS => ?_)
  have hP : va_P (dC, dI) vwCl [(h0, .inr (3, [.ref q1, .ref q5, .int 0, .int 0, .int 0])), (q1, .inr (2, [.int 0, .int 2, .int 1, .int 10, .int 0, .int 1, .ref (u2 0), .ref (u2 1), .ref (u2 2), .ref (u2 3), .ref (u2 4), .ref (u2 5), .ref (u2 6), .ref (u2 7), .ref (u2 8), .ref (u2 9)])), ((u2 0), .inl (cI, 6, .inl (fun _ => 0))), ((u2 1), .inl (cI, 6, .inl (fun _ => 0))), ((u2 2), .inl (cI, 6, .inl (fun _ => 0))), ((u2 3), .inl (cI, 6, .inl (fun _ => 0))), ((u2 4), .inl (cI, 6, .inl (fun _ => 0))), ((u2 5), .inl (cI, 6, .inl (fun _ => 0))), ((u2 6), .inl (cI, 6, .inl (fun _ => 0))), ((u2 7), .inl (cI, 6, .inl (fun _ => 0))), ((u2 8), .inl (cI, 6, .inl (fun _ => 0))), ((u2 9), .inl (cI, 6, .inl (fun _ => 0))), (q5, .inl (cI, 6, .inl (fun _ => 0)))] H := hP
  have hD : va_D A [(h0, .inr (3, [.ref q1, .ref q5, .int 0, .int 0, .int 0])), (q1, .inr (2, [.int 0, .int 2, .int 1, .int 10, .int 0, .int 1, .ref (u2 0), .ref (u2 1), .ref (u2 2), .ref (u2 3), .ref (u2 4), .ref (u2 5), .ref (u2 6), .ref (u2 7), .ref (u2 8), .ref (u2 9)])), ((u2 0), .inl (cI, 6, .inl (fun _ => 0))), ((u2 1), .inl (cI, 6, .inl (fun _ => 0))), ((u2 2), .inl (cI, 6, .inl (fun _ => 0))), ((u2 3), .inl (cI, 6, .inl (fun _ => 0))), ((u2 4), .inl (cI, 6, .inl (fun _ => 0))), ((u2 5), .inl (cI, 6, .inl (fun _ => 0))), ((u2 6), .inl (cI, 6, .inl (fun _ => 0))), ((u2 7), .inl (cI, 6, .inl (fun _ => 0))), ((u2 8), .inl (cI, 6, .inl (fun _ => 0))), ((u2 9), .inl (cI, 6, .inl (fun _ => 0))), (q5, .inl (cI, 6, .inl (fun _ => 0)))] := hD
  refine lv_aload_n hx hb dX4_init_23 rfl (lv_at hl 0 rfl) ?_
  refine lv_iconst (v := 0) hx hb dX4_init_24 (by decide) ?_
  refine va_put (D := (dC, dI)) (ci := 3) (v := .int 0) (ty := .int) (C := RX4) (T := TX4) (N := 5) hx hb hts iX4 tyX4 tyX4_ok nmX4 hown hK hP hD hS 0 rfl rfl 2 (by decide) (hts (.fieldLink RX4 22 "NeighboursMark$Seatings" "mostPassing" "I") (vm_at 10 rfl)) (fun _ h9 => h9) rfl (tyX4_ok 2 (by decide)) rfl rfl (Nat.le_of_ble_eq_true rfl) dX4_init_25 (fun H locs hP hD hS => ?_)
  have hP : va_P (dC, dI) vwCl [(h0, .inr (3, [.ref q1, .ref q5, .int 0, .int 0, .int 0])), (q1, .inr (2, [.int 0, .int 2, .int 1, .int 10, .int 0, .int 1, .ref (u2 0), .ref (u2 1), .ref (u2 2), .ref (u2 3), .ref (u2 4), .ref (u2 5), .ref (u2 6), .ref (u2 7), .ref (u2 8), .ref (u2 9)])), ((u2 0), .inl (cI, 6, .inl (fun _ => 0))), ((u2 1), .inl (cI, 6, .inl (fun _ => 0))), ((u2 2), .inl (cI, 6, .inl (fun _ => 0))), ((u2 3), .inl (cI, 6, .inl (fun _ => 0))), ((u2 4), .inl (cI, 6, .inl (fun _ => 0))), ((u2 5), .inl (cI, 6, .inl (fun _ => 0))), ((u2 6), .inl (cI, 6, .inl (fun _ => 0))), ((u2 7), .inl (cI, 6, .inl (fun _ => 0))), ((u2 8), .inl (cI, 6, .inl (fun _ => 0))), ((u2 9), .inl (cI, 6, .inl (fun _ => 0))), (q5, .inl (cI, 6, .inl (fun _ => 0)))] H := hP
  have hD : va_D A [(h0, .inr (3, [.ref q1, .ref q5, .int 0, .int 0, .int 0])), (q1, .inr (2, [.int 0, .int 2, .int 1, .int 10, .int 0, .int 1, .ref (u2 0), .ref (u2 1), .ref (u2 2), .ref (u2 3), .ref (u2 4), .ref (u2 5), .ref (u2 6), .ref (u2 7), .ref (u2 8), .ref (u2 9)])), ((u2 0), .inl (cI, 6, .inl (fun _ => 0))), ((u2 1), .inl (cI, 6, .inl (fun _ => 0))), ((u2 2), .inl (cI, 6, .inl (fun _ => 0))), ((u2 3), .inl (cI, 6, .inl (fun _ => 0))), ((u2 4), .inl (cI, 6, .inl (fun _ => 0))), ((u2 5), .inl (cI, 6, .inl (fun _ => 0))), ((u2 6), .inl (cI, 6, .inl (fun _ => 0))), ((u2 7), .inl (cI, 6, .inl (fun _ => 0))), ((u2 8), .inl (cI, 6, .inl (fun _ => 0))), ((u2 9), .inl (cI, 6, .inl (fun _ => 0))), (q5, .inl (cI, 6, .inl (fun _ => 0)))] := hD
  refine lv_aload_n hx hb dX4_init_28 rfl (lv_at hl 0 rfl) ?_
  refine lv_iconst (v := 0) hx hb dX4_init_29 (by decide) ?_
  refine va_put (D := (dC, dI)) (ci := 3) (v := .int 0) (ty := .int) (C := RX4) (T := TX4) (N := 5) hx hb hts iX4 tyX4 tyX4_ok nmX4 hown hK hP hD hS 0 rfl rfl 3 (by decide) (hts (.fieldLink RX4 26 "NeighboursMark$Seatings" "greatestSum" "I") (vm_at 11 rfl)) (fun _ h9 => h9) rfl (tyX4_ok 3 (by decide)) rfl rfl (Nat.le_of_ble_eq_true rfl) dX4_init_30 (fun H locs hP hD hS => ?_)
  have hP : va_P (dC, dI) vwCl [(h0, .inr (3, [.ref q1, .ref q5, .int 0, .int 0, .int 0])), (q1, .inr (2, [.int 0, .int 2, .int 1, .int 10, .int 0, .int 1, .ref (u2 0), .ref (u2 1), .ref (u2 2), .ref (u2 3), .ref (u2 4), .ref (u2 5), .ref (u2 6), .ref (u2 7), .ref (u2 8), .ref (u2 9)])), ((u2 0), .inl (cI, 6, .inl (fun _ => 0))), ((u2 1), .inl (cI, 6, .inl (fun _ => 0))), ((u2 2), .inl (cI, 6, .inl (fun _ => 0))), ((u2 3), .inl (cI, 6, .inl (fun _ => 0))), ((u2 4), .inl (cI, 6, .inl (fun _ => 0))), ((u2 5), .inl (cI, 6, .inl (fun _ => 0))), ((u2 6), .inl (cI, 6, .inl (fun _ => 0))), ((u2 7), .inl (cI, 6, .inl (fun _ => 0))), ((u2 8), .inl (cI, 6, .inl (fun _ => 0))), ((u2 9), .inl (cI, 6, .inl (fun _ => 0))), (q5, .inl (cI, 6, .inl (fun _ => 0)))] H := hP
  have hD : va_D A [(h0, .inr (3, [.ref q1, .ref q5, .int 0, .int 0, .int 0])), (q1, .inr (2, [.int 0, .int 2, .int 1, .int 10, .int 0, .int 1, .ref (u2 0), .ref (u2 1), .ref (u2 2), .ref (u2 3), .ref (u2 4), .ref (u2 5), .ref (u2 6), .ref (u2 7), .ref (u2 8), .ref (u2 9)])), ((u2 0), .inl (cI, 6, .inl (fun _ => 0))), ((u2 1), .inl (cI, 6, .inl (fun _ => 0))), ((u2 2), .inl (cI, 6, .inl (fun _ => 0))), ((u2 3), .inl (cI, 6, .inl (fun _ => 0))), ((u2 4), .inl (cI, 6, .inl (fun _ => 0))), ((u2 5), .inl (cI, 6, .inl (fun _ => 0))), ((u2 6), .inl (cI, 6, .inl (fun _ => 0))), ((u2 7), .inl (cI, 6, .inl (fun _ => 0))), ((u2 8), .inl (cI, 6, .inl (fun _ => 0))), ((u2 9), .inl (cI, 6, .inl (fun _ => 0))), (q5, .inl (cI, 6, .inl (fun _ => 0)))] := hD
  refine lv_aload_n hx hb dX4_init_33 rfl (lv_at hl 0 rfl) ?_
  refine lv_iconst (v := 0) hx hb dX4_init_34 (by decide) ?_
  refine va_put (D := (dC, dI)) (ci := 3) (v := .int 0) (ty := .int) (C := RX4) (T := TX4) (N := 5) hx hb hts iX4 tyX4 tyX4_ok nmX4 hown hK hP hD hS 0 rfl rfl 4 (by decide) (hts (.fieldLink RX4 29 "NeighboursMark$Seatings" "fits" "I") (vm_at 12 rfl)) (fun _ h9 => h9) rfl (tyX4_ok 4 (by decide)) rfl rfl (Nat.le_of_ble_eq_true rfl) dX4_init_35 (fun H locs hP hD hS => ?_)
  have hP : va_P (dC, dI) vwCl [(h0, .inr (3, [.ref q1, .ref q5, .int 0, .int 0, .int 0])), (q1, .inr (2, [.int 0, .int 2, .int 1, .int 10, .int 0, .int 1, .ref (u2 0), .ref (u2 1), .ref (u2 2), .ref (u2 3), .ref (u2 4), .ref (u2 5), .ref (u2 6), .ref (u2 7), .ref (u2 8), .ref (u2 9)])), ((u2 0), .inl (cI, 6, .inl (fun _ => 0))), ((u2 1), .inl (cI, 6, .inl (fun _ => 0))), ((u2 2), .inl (cI, 6, .inl (fun _ => 0))), ((u2 3), .inl (cI, 6, .inl (fun _ => 0))), ((u2 4), .inl (cI, 6, .inl (fun _ => 0))), ((u2 5), .inl (cI, 6, .inl (fun _ => 0))), ((u2 6), .inl (cI, 6, .inl (fun _ => 0))), ((u2 7), .inl (cI, 6, .inl (fun _ => 0))), ((u2 8), .inl (cI, 6, .inl (fun _ => 0))), ((u2 9), .inl (cI, 6, .inl (fun _ => 0))), (q5, .inl (cI, 6, .inl (fun _ => 0)))] H := hP
  have hD : va_D A [(h0, .inr (3, [.ref q1, .ref q5, .int 0, .int 0, .int 0])), (q1, .inr (2, [.int 0, .int 2, .int 1, .int 10, .int 0, .int 1, .ref (u2 0), .ref (u2 1), .ref (u2 2), .ref (u2 3), .ref (u2 4), .ref (u2 5), .ref (u2 6), .ref (u2 7), .ref (u2 8), .ref (u2 9)])), ((u2 0), .inl (cI, 6, .inl (fun _ => 0))), ((u2 1), .inl (cI, 6, .inl (fun _ => 0))), ((u2 2), .inl (cI, 6, .inl (fun _ => 0))), ((u2 3), .inl (cI, 6, .inl (fun _ => 0))), ((u2 4), .inl (cI, 6, .inl (fun _ => 0))), ((u2 5), .inl (cI, 6, .inl (fun _ => 0))), ((u2 6), .inl (cI, 6, .inl (fun _ => 0))), ((u2 7), .inl (cI, 6, .inl (fun _ => 0))), ((u2 8), .inl (cI, 6, .inl (fun _ => 0))), ((u2 9), .inl (cI, 6, .inl (fun _ => 0))), (q5, .inl (cI, 6, .inl (fun _ => 0)))] := hD
  exact vx_vret (u := fun k => ([q1, q5, (u2 0), (u2 1), (u2 2), (u2 3), (u2 4), (u2 5), (u2 6), (u2 7), (u2 8), (u2 9)] : List Nat).getD k 0) hx hb hr hlocks hK hP hD hS [0, 1, 2, 3, 4, 5, 6, 7, 8, 9, 10, 11, 12] rfl (by decide) trivial dX4_init_38
set_option maxHeartbeats 4000000 in
set_option maxRecDepth 100000 in
theorem n_Ways (l : Launch) (dC : Nat → ClassId) (dI : Nat → Nat → Nat) (cI cC cZ : ClassId) (sz : Nat) (h0 : Nat) : Met l yX5_init wsX5_init ({ frames := 2, cells := 12, slots := 82, locals := 32 }) (va_Pc [.ref h0] (vx_B (dC, dI) (vx_T cI cC cZ) sz [(h0, .inr (4, [.null, .null, .int 0, .int 0, .int 0]))])) (va_Qv (fun (_ : Nat → Nat) => True) (vx_C (dC, dI) (vx_T cI cC cZ) (va_A [(h0, .inr (4, [.null, .null, .int 0, .int 0, .int 0]))] sz) (fun (u : Nat → Nat) => [(h0, .inr (4, [.ref (u 0), .ref (u 1), .int 0, .int 0, .int 0])), ((u 0), .inr (2, [.int 0, .int 2, .int 1, .int 10, .int 0, .int 1, .ref (u 2), .ref (u 3), .ref (u 4), .ref (u 5), .ref (u 6), .ref (u 7), .ref (u 8), .ref (u 9), .ref (u 10), .ref (u 11)])), ((u 2), .inl (cI, 6, .inl (fun _ => 0))), ((u 3), .inl (cI, 6, .inl (fun _ => 0))), ((u 4), .inl (cI, 6, .inl (fun _ => 0))), ((u 5), .inl (cI, 6, .inl (fun _ => 0))), ((u 6), .inl (cI, 6, .inl (fun _ => 0))), ((u 7), .inl (cI, 6, .inl (fun _ => 0))), ((u 8), .inl (cI, 6, .inl (fun _ => 0))), ((u 9), .inl (cI, 6, .inl (fun _ => 0))), ((u 10), .inl (cI, 6, .inl (fun _ => 0))), ((u 11), .inl (cI, 6, .inl (fun _ => 0))), ((u 1), .inl (cI, 6, .inl (fun _ => 0)))])) (va_A [(h0, .inr (4, [.null, .null, .int 0, .int 0, .int 0]))] sz)) 12 82 (va_A [(h0, .inr (4, [.null, .null, .int 0, .int 0, .int 0]))] sz) := by
  refine Met.ofW (cc := cX5_init) (maxL := 1) (ret := none) (by decide) rfl ?_
  intro p e s m args below meth c s₁ B hml hv
  obtain ⟨rfl, hsz, hP, hK, hD0, hN⟩ := hv
  have hx := B.exec
  have hb := B.bytes
  have hr := B.returns
  have hts := atoms_spec (ws := wsX5_init) B.pre
  have hown : s.vm.findClass RX5 = some m.cls := findClass_of_methodNamed B.named
  have hlocks := B.notSynchronized
  have hin : meth.name = "<init>" := (name_of_methodNamed B.named B.method).1
  subst hsz
  have hD := hD0.self (sz := s.heap.size)
  generalize hAe : va_A [(h0, .inr (4, [.null, .null, .int 0, .int 0, .int 0]))] s.heap.size = A at hD hN ⊢
  have hA : ∀ q : Nat, s.heap.size ≤ q → A q := fun q h => by rw [← hAe]; exact Or.inr h
  have hS : va_S A s.heap s.heap [] := va_S.rf
  have hl := lv_entry ([.ref h0]) (n := 1) (Nat.le_of_ble_eq_true rfl)
  rw [lg_entry_eq]
  generalize (lg_sl ([.ref h0]) ++ List.replicate (1 - (lg_sl ([.ref h0])).length) Slot.unset).toArray = ls at hl ⊢
  have hl : lv_has ls 1 [(0, .ref h0)] := hl
  have iX3 : ∀ w ∈ u_ws RX3 TX3 16, w ∈ wsX5_init := fun w h => (List.mem_cons_of_mem _ (List.mem_append_left _ (List.mem_append_right _ h)))
  have iX5 : ∀ w ∈ u_ws RX5 TX5 5, w ∈ wsX5_init := fun w h => (List.mem_cons_of_mem _ (List.mem_append_right _ h))
  refine lv_aload_n hx hb dX5_init_0 rfl (lv_at hl 0 rfl) ?_
  refine W.objInit hx hb hown (hts (.methodLink RX5 3 objectInit) (vm_at 1 rfl)) (hts (.instanceMethod objectInit) (vm_at 2 rfl)) (hts (.code objectInit ⟨#[0xb1]⟩ 1 none) (vm_at 3 rfl)) rfl (by rw [hml]; exact hl.1) rfl dX5_init_1 (Nat.le_of_ble_eq_true rfl) (Nat.le_of_ble_eq_true rfl) ?_
  refine W.eq (g2 := F0 m 4 ls []) rfl ?_
  refine lv_aload_n hx hb dX5_init_4 rfl (lv_at hl 0 rfl) ?_
  refine va_new (ci := 2) (fs := [.int 0, .int 0, .int 0, .int 0, .int 0, .int 0, .null, .null, .null, .null, .null, .null, .null, .null, .null, .null]) (C := RX3) (T := TX3) (N := 16) hx hb hts iX3 tyX3 tyX3_ok hown (hts (.classLink RX5 9 RX3) (vm_at 4 rfl)) (hts (.instantiable RX3 16) (vm_at 5 rfl)) (hts (.initialized RX3) (vm_at 6 rfl)) hK hP hD hS hA rfl (fun j hj => by rcases (show j = 0 ∨ j = 1 ∨ j = 2 ∨ j = 3 ∨ j = 4 ∨ j = 5 ∨ j = 6 ∨ j = 7 ∨ j = 8 ∨ j = 9 ∨ j = 10 ∨ j = 11 ∨ j = 12 ∨ j = 13 ∨ j = 14 ∨ j = 15 by omega) with rfl | rfl | rfl | rfl | rfl | rfl | rfl | rfl | rfl | rfl | rfl | rfl | rfl | rfl | rfl | rfl <;> rfl) (Nat.le_of_ble_eq_true rfl) (Nat.le_of_ble_eq_true rfl) dX5_init_5 (fun q1 H hP hD hS => ?_)
  refine W.widen (k := 1) (n := 16) (Nat.le_refl _) (Nat.le_refl _) ?_
  have hP : va_P (dC, dI) vwCl [(h0, .inr (4, [.null, .null, .int 0, .int 0, .int 0])), (q1, .inr (2, [.int 0, .int 0, .int 0, .int 0, .int 0, .int 0, .null, .null, .null, .null, .null, .null, .null, .null, .null, .null]))] H := hP
  have hD : va_D A [(h0, .inr (4, [.null, .null, .int 0, .int 0, .int 0])), (q1, .inr (2, [.int 0, .int 0, .int 0, .int 0, .int 0, .int 0, .null, .null, .null, .null, .null, .null, .null, .null, .null, .null]))] := hD
  refine lv_dup hx hb dX5_init_8 rfl ?_
  have hPc := hP.sub (ws' := [(q1, .inr (2, [.int 0, .int 0, .int 0, .int 0, .int 0, .int 0, .null, .null, .null, .null, .null, .null, .null, .null, .null, .null]))]) [1] rfl
  have hDc := hD.sub (ws' := [(q1, .inr (2, [.int 0, .int 0, .int 0, .int 0, .int 0, .int 0, .null, .null, .null, .null, .null, .null, .null, .null, .null, .null]))]) [1] (by decide) rfl
  have hFc := va_free (wc := [(q1, .inr (2, [.int 0, .int 0, .int 0, .int 0, .int 0, .int 0, .null, .null, .null, .null, .null, .null, .null, .null, .null, .null]))]) hD hS hA [1] rfl
  refine vx_callv (wc := [(q1, .inr (2, [.int 0, .int 0, .int 0, .int 0, .int 0, .int 0, .null, .null, .null, .null, .null, .null, .null, .null, .null, .null]))]) (wr := [(h0, .inr (4, [.null, .null, .int 0, .int 0, .int 0]))]) hP hD hS hA [1] [0] rfl rfl (by decide) (by decide) (va_runI (As := []) (rest := [.ref q1, .ref h0]) ⟨hx, hb, hml, hown, hts⟩ (n_School l dC dI cI cC cZ _ q1) (cwI 0 hts gX5_init_X3_init rfl rfl rfl (hts (.initialized RX3) (vm_at 6 rfl)) (hts (.methodLink RX5 11 yX3_init) (vm_at 13 rfl)) (hts (.instanceMethod yX3_init) (vm_at 14 rfl)) rfl hv_yX3_init.2 ⟨Nat.le_of_ble_eq_true rfl, Nat.le_of_ble_eq_true rfl⟩) ⟨vx_blind, vx_pre hK hPc hDc hN hS hFc⟩ rfl rfl hl.1 rfl (lv_room (Nat.le_of_ble_eq_true rfl)) dX5_init_9 ⟨Nat.le_of_ble_eq_true rfl, Nat.le_of_ble_eq_true rfl⟩) (fun u2 H locs hw4 hP hD hS => ?_)
  refine W.widen (k := 11) (n := 76) (Nat.le_refl _) (Nat.le_refl _) ?_
  have hP : va_P (dC, dI) vwCl [(h0, .inr (4, [.null, .null, .int 0, .int 0, .int 0])), (q1, .inr (2, [.int 0, .int 2, .int 1, .int 10, .int 0, .int 1, .ref (u2 0), .ref (u2 1), .ref (u2 2), .ref (u2 3), .ref (u2 4), .ref (u2 5), .ref (u2 6), .ref (u2 7), .ref (u2 8), .ref (u2 9)])), ((u2 0), .inl (cI, 6, .inl (fun _ => 0))), ((u2 1), .inl (cI, 6, .inl (fun _ => 0))), ((u2 2), .inl (cI, 6, .inl (fun _ => 0))), ((u2 3), .inl (cI, 6, .inl (fun _ => 0))), ((u2 4), .inl (cI, 6, .inl (fun _ => 0))), ((u2 5), .inl (cI, 6, .inl (fun _ => 0))), ((u2 6), .inl (cI, 6, .inl (fun _ => 0))), ((u2 7), .inl (cI, 6, .inl (fun _ => 0))), ((u2 8), .inl (cI, 6, .inl (fun _ => 0))), ((u2 9), .inl (cI, 6, .inl (fun _ => 0)))] H := hP
  have hD : va_D A [(h0, .inr (4, [.null, .null, .int 0, .int 0, .int 0])), (q1, .inr (2, [.int 0, .int 2, .int 1, .int 10, .int 0, .int 1, .ref (u2 0), .ref (u2 1), .ref (u2 2), .ref (u2 3), .ref (u2 4), .ref (u2 5), .ref (u2 6), .ref (u2 7), .ref (u2 8), .ref (u2 9)])), ((u2 0), .inl (cI, 6, .inl (fun _ => 0))), ((u2 1), .inl (cI, 6, .inl (fun _ => 0))), ((u2 2), .inl (cI, 6, .inl (fun _ => 0))), ((u2 3), .inl (cI, 6, .inl (fun _ => 0))), ((u2 4), .inl (cI, 6, .inl (fun _ => 0))), ((u2 5), .inl (cI, 6, .inl (fun _ => 0))), ((u2 6), .inl (cI, 6, .inl (fun _ => 0))), ((u2 7), .inl (cI, 6, .inl (fun _ => 0))), ((u2 8), .inl (cI, 6, .inl (fun _ => 0))), ((u2 9), .inl (cI, 6, .inl (fun _ => 0)))] := hD
  refine va_putF (D := (dC, dI)) (ci := 4) (v := .ref q1) (ty := (.object "NeighboursMark$School")) (C := RX5) (T := TX5) (N := 5) hx hb hts iX5 tyX5 tyX5_ok nmX5 hown hK hP hD hS 0 rfl rfl 0 (by decide) (hts (.fieldLink RX5 12 "NeighboursMark$Ways" "mind" "LNeighboursMark$School;") (vm_at 7 rfl)) (fun _ h9 => h9) rfl hin rfl (tyX5_ok 0 (by decide)) rfl rfl (Nat.le_of_ble_eq_true rfl) dX5_init_12 (fun H locs hP hD hS => ?_)
  have hP : va_P (dC, dI) vwCl [(h0, .inr (4, [.ref q1, .null, .int 0, .int 0, .int 0])), (q1, .inr (2, [.int 0, .int 2, .int 1, .int 10, .int 0, .int 1, .ref (u2 0), .ref (u2 1), .ref (u2 2), .ref (u2 3), .ref (u2 4), .ref (u2 5), .ref (u2 6), .ref (u2 7), .ref (u2 8), .ref (u2 9)])), ((u2 0), .inl (cI, 6, .inl (fun _ => 0))), ((u2 1), .inl (cI, 6, .inl (fun _ => 0))), ((u2 2), .inl (cI, 6, .inl (fun _ => 0))), ((u2 3), .inl (cI, 6, .inl (fun _ => 0))), ((u2 4), .inl (cI, 6, .inl (fun _ => 0))), ((u2 5), .inl (cI, 6, .inl (fun _ => 0))), ((u2 6), .inl (cI, 6, .inl (fun _ => 0))), ((u2 7), .inl (cI, 6, .inl (fun _ => 0))), ((u2 8), .inl (cI, 6, .inl (fun _ => 0))), ((u2 9), .inl (cI, 6, .inl (fun _ => 0)))] H := hP
  have hD : va_D A [(h0, .inr (4, [.ref q1, .null, .int 0, .int 0, .int 0])), (q1, .inr (2, [.int 0, .int 2, .int 1, .int 10, .int 0, .int 1, .ref (u2 0), .ref (u2 1), .ref (u2 2), .ref (u2 3), .ref (u2 4), .ref (u2 5), .ref (u2 6), .ref (u2 7), .ref (u2 8), .ref (u2 9)])), ((u2 0), .inl (cI, 6, .inl (fun _ => 0))), ((u2 1), .inl (cI, 6, .inl (fun _ => 0))), ((u2 2), .inl (cI, 6, .inl (fun _ => 0))), ((u2 3), .inl (cI, 6, .inl (fun _ => 0))), ((u2 4), .inl (cI, 6, .inl (fun _ => 0))), ((u2 5), .inl (cI, 6, .inl (fun _ => 0))), ((u2 6), .inl (cI, 6, .inl (fun _ => 0))), ((u2 7), .inl (cI, 6, .inl (fun _ => 0))), ((u2 8), .inl (cI, 6, .inl (fun _ => 0))), ((u2 9), .inl (cI, 6, .inl (fun _ => 0)))] := hD
  refine lv_aload_n hx hb dX5_init_15 rfl (lv_at hl 0 rfl) ?_
  refine lv_bipush (v := 6) hx hb dX5_init_16 (by decide) ?_
  refine va_newa (atype := .int) (ty := .int) hx hb (hts (.arrayClass .int) (vm_at 8 rfl)) rfl hK hP hD hS hA (a0 := (6, .inl (fun _ => 0))) (N' := 6) (fun _ => rfl) (by decide) (by decide) (by decide) (Nat.le_of_ble_eq_true rfl) (Nat.le_of_ble_eq_true rfl) dX5_init_18 (fun q5 cA6 H hK9 hP hD hS => ?_)
  have ecA6 := (vx_same .int (fun _ => rfl) hK9 0 3 rfl rfl).symm
  subst ecA6
  refine W.widen (k := 12) (n := 82) (Nat.le_refl _) (Nat.le_refl _) ?_
  have hP : va_P (dC, dI) vwCl [(h0, .inr (4, [.ref q1, .null, .int 0, .int 0, .int 0])), (q1, .inr (2, [.int 0, .int 2, .int 1, .int 10, .int 0, .int 1, .ref (u2 0), .ref (u2 1), .ref (u2 2), .ref (u2 3), .ref (u2 4), .ref (u2 5), .ref (u2 6), .ref (u2 7), .ref (u2 8), .ref (u2 9)])), ((u2 0), .inl (cI, 6, .inl (fun _ => 0))), ((u2 1), .inl (cI, 6, .inl (fun _ => 0))), ((u2 2), .inl (cI, 6, .inl (fun _ => 0))), ((u2 3), .inl (cI, 6, .inl (fun _ => 0))), ((u2 4), .inl (cI, 6, .inl (fun _ => 0))), ((u2 5), .inl (cI, 6, .inl (fun _ => 0))), ((u2 6), .inl (cI, 6, .inl (fun _ => 0))), ((u2 7), .inl (cI, 6, .inl (fun _ => 0))), ((u2 8), .inl (cI, 6, .inl (fun _ => 0))), ((u2 9), .inl (cI, 6, .inl (fun _ => 0))), (q5, .inl (cI, 6, .inl (fun _ => 0)))] H := hP
  have hD : va_D A [(h0, .inr (4, [.ref q1, .null, .int 0, .int 0, .int 0])), (q1, .inr (2, [.int 0, .int 2, .int 1, .int 10, .int 0, .int 1, .ref (u2 0), .ref (u2 1), .ref (u2 2), .ref (u2 3), .ref (u2 4), .ref (u2 5), .ref (u2 6), .ref (u2 7), .ref (u2 8), .ref (u2 9)])), ((u2 0), .inl (cI, 6, .inl (fun _ => 0))), ((u2 1), .inl (cI, 6, .inl (fun _ => 0))), ((u2 2), .inl (cI, 6, .inl (fun _ => 0))), ((u2 3), .inl (cI, 6, .inl (fun _ => 0))), ((u2 4), .inl (cI, 6, .inl (fun _ => 0))), ((u2 5), .inl (cI, 6, .inl (fun _ => 0))), ((u2 6), .inl (cI, 6, .inl (fun _ => 0))), ((u2 7), .inl (cI, 6, .inl (fun _ => 0))), ((u2 8), .inl (cI, 6, .inl (fun _ => 0))), ((u2 9), .inl (cI, 6, .inl (fun _ => 0))), (q5, .inl (cI, 6, .inl (fun _ => 0)))] := hD
  refine va_putF (D := (dC, dI)) (ci := 4) (v := .ref q5) (ty := (.array .int)) (C := RX5) (T := TX5) (N := 5) hx hb hts iX5 tyX5 tyX5_ok nmX5 hown hK hP hD hS 0 rfl rfl 1 (by decide) (hts (.fieldLink RX5 18 "NeighboursMark$Ways" "firstLearn" "[I") (vm_at 9 rfl)) (fun _ h9 => h9) rfl hin rfl (tyX5_ok 1 (by decide)) rfl rfl (Nat.le_of_ble_eq_true rfl) dX5_init_20 (fun H locs hP hD hS => ?_)
  have hP : va_P (dC, dI) vwCl [(h0, .inr (4, [.ref q1, .ref q5, .int 0, .int 0, .int 0])), (q1, .inr (2, [.int 0, .int 2, .int 1, .int 10, .int 0, .int 1, .ref (u2 0), .ref (u2 1), .ref (u2 2), .ref (u2 3), .ref (u2 4), .ref (u2 5), .ref (u2 6), .ref (u2 7), .ref (u2 8), .ref (u2 9)])), ((u2 0), .inl (cI, 6, .inl (fun _ => 0))), ((u2 1), .inl (cI, 6, .inl (fun _ => 0))), ((u2 2), .inl (cI, 6, .inl (fun _ => 0))), ((u2 3), .inl (cI, 6, .inl (fun _ => 0))), ((u2 4), .inl (cI, 6, .inl (fun _ => 0))), ((u2 5), .inl (cI, 6, .inl (fun _ => 0))), ((u2 6), .inl (cI, 6, .inl (fun _ => 0))), ((u2 7), .inl (cI, 6, .inl (fun _ => 0))), ((u2 8), .inl (cI, 6, .inl (fun _ => 0))), ((u2 9), .inl (cI, 6, .inl (fun _ => 0))), (q5, .inl (cI, 6, .inl (fun _ => 0)))] H := hP
  have hD : va_D A [(h0, .inr (4, [.ref q1, .ref q5, .int 0, .int 0, .int 0])), (q1, .inr (2, [.int 0, .int 2, .int 1, .int 10, .int 0, .int 1, .ref (u2 0), .ref (u2 1), .ref (u2 2), .ref (u2 3), .ref (u2 4), .ref (u2 5), .ref (u2 6), .ref (u2 7), .ref (u2 8), .ref (u2 9)])), ((u2 0), .inl (cI, 6, .inl (fun _ => 0))), ((u2 1), .inl (cI, 6, .inl (fun _ => 0))), ((u2 2), .inl (cI, 6, .inl (fun _ => 0))), ((u2 3), .inl (cI, 6, .inl (fun _ => 0))), ((u2 4), .inl (cI, 6, .inl (fun _ => 0))), ((u2 5), .inl (cI, 6, .inl (fun _ => 0))), ((u2 6), .inl (cI, 6, .inl (fun _ => 0))), ((u2 7), .inl (cI, 6, .inl (fun _ => 0))), ((u2 8), .inl (cI, 6, .inl (fun _ => 0))), ((u2 9), .inl (cI, 6, .inl (fun _ => 0))), (q5, .inl (cI, 6, .inl (fun _ => 0)))] := hD
  refine lv_aload_n hx hb dX5_init_23 rfl (lv_at hl 0 rfl) ?_
  refine lv_iconst (v := 0) hx hb dX5_init_24 (by decide) ?_
  refine va_put (D := (dC, dI)) (ci := 4) (v := .int 0) (ty := .int) (C := RX5) (T := TX5) (N := 5) hx hb hts iX5 tyX5 tyX5_ok nmX5 hown hK hP hD hS 0 rfl rfl 2 (by decide) (hts (.fieldLink RX5 22 "NeighboursMark$Ways" "rests" "I") (vm_at 10 rfl)) (fun _ h9 => h9) rfl (tyX5_ok 2 (by decide)) rfl rfl (Nat.le_of_ble_eq_true rfl) dX5_init_25 (fun H locs hP hD hS => ?_)
  have hP : va_P (dC, dI) vwCl [(h0, .inr (4, [.ref q1, .ref q5, .int 0, .int 0, .int 0])), (q1, .inr (2, [.int 0, .int 2, .int 1, .int 10, .int 0, .int 1, .ref (u2 0), .ref (u2 1), .ref (u2 2), .ref (u2 3), .ref (u2 4), .ref (u2 5), .ref (u2 6), .ref (u2 7), .ref (u2 8), .ref (u2 9)])), ((u2 0), .inl (cI, 6, .inl (fun _ => 0))), ((u2 1), .inl (cI, 6, .inl (fun _ => 0))), ((u2 2), .inl (cI, 6, .inl (fun _ => 0))), ((u2 3), .inl (cI, 6, .inl (fun _ => 0))), ((u2 4), .inl (cI, 6, .inl (fun _ => 0))), ((u2 5), .inl (cI, 6, .inl (fun _ => 0))), ((u2 6), .inl (cI, 6, .inl (fun _ => 0))), ((u2 7), .inl (cI, 6, .inl (fun _ => 0))), ((u2 8), .inl (cI, 6, .inl (fun _ => 0))), ((u2 9), .inl (cI, 6, .inl (fun _ => 0))), (q5, .inl (cI, 6, .inl (fun _ => 0)))] H := hP
  have hD : va_D A [(h0, .inr (4, [.ref q1, .ref q5, .int 0, .int 0, .int 0])), (q1, .inr (2, [.int 0, .int 2, .int 1, .int 10, .int 0, .int 1, .ref (u2 0), .ref (u2 1), .ref (u2 2), .ref (u2 3), .ref (u2 4), .ref (u2 5), .ref (u2 6), .ref (u2 7), .ref (u2 8), .ref (u2 9)])), ((u2 0), .inl (cI, 6, .inl (fun _ => 0))), ((u2 1), .inl (cI, 6, .inl (fun _ => 0))), ((u2 2), .inl (cI, 6, .inl (fun _ => 0))), ((u2 3), .inl (cI, 6, .inl (fun _ => 0))), ((u2 4), .inl (cI, 6, .inl (fun _ => 0))), ((u2 5), .inl (cI, 6, .inl (fun _ => 0))), ((u2 6), .inl (cI, 6, .inl (fun _ => 0))), ((u2 7), .inl (cI, 6, .inl (fun _ => 0))), ((u2 8), .inl (cI, 6, .inl (fun _ => 0))), ((u2 9), .inl (cI, 6, .inl (fun _ => 0))), (q5, .inl (cI, 6, .inl (fun _ => 0)))] := hD
  refine lv_aload_n hx hb dX5_init_28 rfl (lv_at hl 0 rfl) ?_
  refine lv_iconst (v := 0) hx hb dX5_init_29 (by decide) ?_
  refine va_put (D := (dC, dI)) (ci := 4) (v := .int 0) (ty := .int) (C := RX5) (T := TX5) (N := 5) hx hb hts iX5 tyX5 tyX5_ok nmX5 hown hK hP hD hS 0 rfl rfl 3 (by decide) (hts (.fieldLink RX5 26 "NeighboursMark$Ways" "firstSum" "I") (vm_at 11 rfl)) (fun _ h9 => h9) rfl (tyX5_ok 3 (by decide)) rfl rfl (Nat.le_of_ble_eq_true rfl) dX5_init_30 (fun H locs hP hD hS => ?_)
  have hP : va_P (dC, dI) vwCl [(h0, .inr (4, [.ref q1, .ref q5, .int 0, .int 0, .int 0])), (q1, .inr (2, [.int 0, .int 2, .int 1, .int 10, .int 0, .int 1, .ref (u2 0), .ref (u2 1), .ref (u2 2), .ref (u2 3), .ref (u2 4), .ref (u2 5), .ref (u2 6), .ref (u2 7), .ref (u2 8), .ref (u2 9)])), ((u2 0), .inl (cI, 6, .inl (fun _ => 0))), ((u2 1), .inl (cI, 6, .inl (fun _ => 0))), ((u2 2), .inl (cI, 6, .inl (fun _ => 0))), ((u2 3), .inl (cI, 6, .inl (fun _ => 0))), ((u2 4), .inl (cI, 6, .inl (fun _ => 0))), ((u2 5), .inl (cI, 6, .inl (fun _ => 0))), ((u2 6), .inl (cI, 6, .inl (fun _ => 0))), ((u2 7), .inl (cI, 6, .inl (fun _ => 0))), ((u2 8), .inl (cI, 6, .inl (fun _ => 0))), ((u2 9), .inl (cI, 6, .inl (fun _ => 0))), (q5, .inl (cI, 6, .inl (fun _ => 0)))] H := hP
  have hD : va_D A [(h0, .inr (4, [.ref q1, .ref q5, .int 0, .int 0, .int 0])), (q1, .inr (2, [.int 0, .int 2, .int 1, .int 10, .int 0, .int 1, .ref (u2 0), .ref (u2 1), .ref (u2 2), .ref (u2 3), .ref (u2 4), .ref (u2 5), .ref (u2 6), .ref (u2 7), .ref (u2 8), .ref (u2 9)])), ((u2 0), .inl (cI, 6, .inl (fun _ => 0))), ((u2 1), .inl (cI, 6, .inl (fun _ => 0))), ((u2 2), .inl (cI, 6, .inl (fun _ => 0))), ((u2 3), .inl (cI, 6, .inl (fun _ => 0))), ((u2 4), .inl (cI, 6, .inl (fun _ => 0))), ((u2 5), .inl (cI, 6, .inl (fun _ => 0))), ((u2 6), .inl (cI, 6, .inl (fun _ => 0))), ((u2 7), .inl (cI, 6, .inl (fun _ => 0))), ((u2 8), .inl (cI, 6, .inl (fun _ => 0))), ((u2 9), .inl (cI, 6, .inl (fun _ => 0))), (q5, .inl (cI, 6, .inl (fun _ => 0)))] := hD
  refine lv_aload_n hx hb dX5_init_33 rfl (lv_at hl 0 rfl) ?_
  refine lv_iconst (v := 0) hx hb dX5_init_34 (by decide) ?_
  refine va_put (D := (dC, dI)) (ci := 4) (v := .int 0) (ty := .int) (C := RX5) (T := TX5) (N := 5) hx hb hts iX5 tyX5 tyX5_ok nmX5 hown hK hP hD hS 0 rfl rfl 4 (by decide) (hts (.fieldLink RX5 29 "NeighboursMark$Ways" "greatestRestingSum" "I") (vm_at 12 rfl)) (fun _ h9 => h9) rfl (tyX5_ok 4 (by decide)) rfl rfl (Nat.le_of_ble_eq_true rfl) dX5_init_35 (fun H locs hP hD hS => ?_)
  have hP : va_P (dC, dI) vwCl [(h0, .inr (4, [.ref q1, .ref q5, .int 0, .int 0, .int 0])), (q1, .inr (2, [.int 0, .int 2, .int 1, .int 10, .int 0, .int 1, .ref (u2 0), .ref (u2 1), .ref (u2 2), .ref (u2 3), .ref (u2 4), .ref (u2 5), .ref (u2 6), .ref (u2 7), .ref (u2 8), .ref (u2 9)])), ((u2 0), .inl (cI, 6, .inl (fun _ => 0))), ((u2 1), .inl (cI, 6, .inl (fun _ => 0))), ((u2 2), .inl (cI, 6, .inl (fun _ => 0))), ((u2 3), .inl (cI, 6, .inl (fun _ => 0))), ((u2 4), .inl (cI, 6, .inl (fun _ => 0))), ((u2 5), .inl (cI, 6, .inl (fun _ => 0))), ((u2 6), .inl (cI, 6, .inl (fun _ => 0))), ((u2 7), .inl (cI, 6, .inl (fun _ => 0))), ((u2 8), .inl (cI, 6, .inl (fun _ => 0))), ((u2 9), .inl (cI, 6, .inl (fun _ => 0))), (q5, .inl (cI, 6, .inl (fun _ => 0)))] H := hP
  have hD : va_D A [(h0, .inr (4, [.ref q1, .ref q5, .int 0, .int 0, .int 0])), (q1, .inr (2, [.int 0, .int 2, .int 1, .int 10, .int 0, .int 1, .ref (u2 0), .ref (u2 1), .ref (u2 2), .ref (u2 3), .ref (u2 4), .ref (u2 5), .ref (u2 6), .ref (u2 7), .ref (u2 8), .ref (u2 9)])), ((u2 0), .inl (cI, 6, .inl (fun _ => 0))), ((u2 1), .inl (cI, 6, .inl (fun _ => 0))), ((u2 2), .inl (cI, 6, .inl (fun _ => 0))), ((u2 3), .inl (cI, 6, .inl (fun _ => 0))), ((u2 4), .inl (cI, 6, .inl (fun _ => 0))), ((u2 5), .inl (cI, 6, .inl (fun _ => 0))), ((u2 6), .inl (cI, 6, .inl (fun _ => 0))), ((u2 7), .inl (cI, 6, .inl (fun _ => 0))), ((u2 8), .inl (cI, 6, .inl (fun _ => 0))), ((u2 9), .inl (cI, 6, .inl (fun _ => 0))), (q5, .inl (cI, 6, .inl (fun _ => 0)))] := hD
  exact vx_vret (u := fun k => ([q1, q5, (u2 0), (u2 1), (u2 2), (u2 3), (u2 4), (u2 5), (u2 6), (u2 7), (u2 8), (u2 9)] : List Nat).getD k 0) hx hb hr hlocks hK hP hD hS [0, 1, 2, 3, 4, 5, 6, 7, 8, 9, 10, 11, 12] rfl (by decide) trivial dX5_init_38
