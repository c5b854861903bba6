set_option maxHeartbeats 4000000 in
set_option maxRecDepth 100000 in
theorem c_mendsWith (l : Launch) (dC : Nat → ClassId) (dI : Nat → Nat → Nat) (cI cC cZ : ClassId) (sz : Nat) (h0 ak0 ak1 ak2 ak3 ak4 ak5 ak6 ak7 ak8 ak9 : Nat) (ahv alw apv awk : Int32) : Met l yX7_mendsWith wsX7_mendsWith ({ frames := 1, cells := 0, slots := 0, locals := 22 }) (va_Pc [.ref h0, .int 0, .int 0] (vx_B (dC, dI) (vx_T cI cC cZ) sz [(h0, .inr (2, [.int 0, .int ahv, .int alw, .int apv, .int awk, .int 1, .ref ak0, .ref ak1, .ref ak2, .ref ak3, .ref ak4, .ref ak5, .ref ak6, .ref ak7, .ref ak8, .ref ak9]))])) (va_Qi (fun (r : Int32) (_ : Unit) => r = 1) (vx_C (dC, dI) (vx_T cI cC cZ) (va_A [(h0, .inr (2, [.int 0, .int ahv, .int alw, .int apv, .int awk, .int 1, .ref ak0, .ref ak1, .ref ak2, .ref ak3, .ref ak4, .ref ak5, .ref ak6, .ref ak7, .ref ak8, .ref ak9]))] sz) (fun (u : Unit) => [(h0, .inr (2, [.int 0, .int ahv, .int alw, .int apv, .int awk, .int 1, .ref ak0, .ref ak1, .ref ak2, .ref ak3, .ref ak4, .ref ak5, .ref ak6, .ref ak7, .ref ak8, .ref ak9]))])) (va_A [(h0, .inr (2, [.int 0, .int ahv, .int alw, .int apv, .int awk, .int 1, .ref ak0, .ref ak1, .ref ak2, .ref ak3, .ref ak4, .ref ak5, .ref ak6, .ref ak7, .ref ak8, .ref ak9]))] sz)) 0 0 (va_A [(h0, .inr (2, [.int 0, .int ahv, .int alw, .int apv, .int awk, .int 1, .ref ak0, .ref ak1, .ref ak2, .ref ak3, .ref ak4, .ref ak5, .ref ak6, .ref ak7, .ref ak8, .ref ak9]))] sz) := by
  refine Met.ofW (cc := cX7_mendsWith) (maxL := 6) (ret := (some .boolean)) (by decide) rfl ?_
  intro p e s m args below meth c s₁ B hml hv
  obtain ⟨rfl, hsz, hP, hK, hD0⟩ := hv
  have hx := B.exec
  have hb := B.bytes
  have hr := B.returns
  have hts := atoms_spec (ws := wsX7_mendsWith) B.pre
  have hown : s.vm.findClass RX7 = some m.cls := findClass_of_methodNamed B.named
  have hlocks := B.notSynchronized
  subst hsz
  have hD := hD0.self (sz := s.heap.size)
  generalize hAe : va_A [(h0, .inr (2, [.int 0, .int ahv, .int alw, .int apv, .int awk, .int 1, .ref ak0, .ref ak1, .ref ak2, .ref ak3, .ref ak4, .ref ak5, .ref ak6, .ref ak7, .ref ak8, .ref ak9]))] s.heap.size = A at hD ⊢
  have hA : ∀ q : Nat, s.heap.size ≤ q → A q := fun q h => by rw [← hAe]; exact Or.inr h
  have hS : va_S A s.heap s.heap [] := va_S.rf
  have hl := lv_entry ([.ref h0, .int 0, .int 0]) (n := 6) (Nat.le_of_ble_eq_true rfl)
  rw [lg_entry_eq]
  generalize (lg_sl ([.ref h0, .int 0, .int 0]) ++ List.replicate (6 - (lg_sl ([.ref h0, .int 0, .int 0])).length) Slot.unset).toArray = ls at hl ⊢
  have hl : lv_has ls 6 [(0, .ref h0), (1, .int 0), (2, .int 0)] := hl
  refine lv_iload_n hx hb dX7_mendsWith_0 rfl (lv_at hl 2 rfl) ?_
  refine lv_if_gt (tgt := 20) hx hb dX7_mendsWith_1 (by decide) (fun c0 => absurd c0 (by decide)) (fun _ => ?_)
  refine lv_aload_n hx hb dX7_mendsWith_4 rfl (lv_at hl 0 rfl) ?_
  have hPc := hP.sub (ws' := [(h0, .inr (2, [.int 0, .int ahv, .int alw, .int apv, .int awk, .int 1, .ref ak0, .ref ak1, .ref ak2, .ref ak3, .ref ak4, .ref ak5, .ref ak6, .ref ak7, .ref ak8, .ref ak9]))]) [0] rfl
  have hDc := hD.sub (ws' := [(h0, .inr (2, [.int 0, .int ahv, .int alw, .int apv, .int awk, .int 1, .ref ak0, .ref ak1, .ref ak2, .ref ak3, .ref ak4, .ref ak5, .ref ak6, .ref ak7, .ref ak8, .ref ak9]))]) [0] (by decide) rfl
  refine vx_calli (wc := [(h0, .inr (2, [.int 0, .int ahv, .int alw, .int apv, .int awk, .int 1, .ref ak0, .ref ak1, .ref ak2, .ref ak3, .ref ak4, .ref ak5, .ref ak6, .ref ak7, .ref ak8, .ref ak9]))]) (wr := []) hP hD hS hA [0] [] rfl rfl (by decide) (by decide) (va_runS (As := [.ref h0]) (rest := []) ⟨hx, hb, hml, hown, hts⟩ (c_passed l dC dI cI cC cZ _ h0 ak0 ak1 ak2 ak3 ak4 ak5 ak6 ak7 ak8 ak9 ahv alw apv awk) (va_cwS 1 hts gX7_mendsWith_X0_passedBits rfl rfl rfl (by decide +kernel) ⟨Nat.le_of_ble_eq_true rfl, Nat.le_of_ble_eq_true rfl⟩) ⟨vx_blind, vx_pre hK hPc hDc⟩ rfl rfl hl.1 rfl (lv_room (Nat.le_of_ble_eq_true rfl)) dX7_mendsWith_5 ⟨Nat.le_of_ble_eq_true rfl, Nat.le_of_ble_eq_true rfl⟩) (fun r2 u1 H locs hw3 hP hD hS => ?_)
  have hP : va_P (dC, dI) vwCl [(h0, .inr (2, [.int 0, .int ahv, .int alw, .int apv, .int awk, .int 1, .ref ak0, .ref ak1, .ref ak2, .ref ak3, .ref ak4, .ref ak5, .ref ak6, .ref ak7, .ref ak8, .ref ak9]))] H := hP
  have hD : va_D A [(h0, .inr (2, [.int 0, .int ahv, .int alw, .int apv, .int awk, .int 1, .ref ak0, .ref ak1, .ref ak2, .ref ak3, .ref ak4, .ref ak5, .ref ak6, .ref ak7, .ref ak8, .ref ak9]))] := hD
  have er2 : 0 = r2 := Eq.symm hw3
  subst er2
  refine lv_iload_n hx hb dX7_mendsWith_8 rfl (lv_at hl 1 rfl) ?_
  refine lv_iand hx hb dX7_mendsWith_9 ?_
  refine lv_topi (fun x4 ex4 => ?_)
  have ex4 : 0 = x4 := (ex4.trans (by decide)).symm
  subst ex4
  refine lv_iload_n hx hb dX7_mendsWith_10 rfl (lv_at hl 1 rfl) ?_
  refine lv_icmp_ne (tgt := 18) hx hb dX7_mendsWith_11 (by decide) (fun c0 => absurd (by decide) c0) (fun _ => ?_)
  refine lv_iconst (v := 1) hx hb dX7_mendsWith_14 (by decide) ?_
  refine lv_goto (tgt := 19) hx hb dX7_mendsWith_15 (by decide) ?_
  exact vx_zret (u := ()) hx hb hr rfl hlocks hK hP hD hS [0] rfl (by decide) rfl dX7_mendsWith_19
set_option maxHeartbeats 4000000 in
set_option maxRecDepth 100000 in
theorem c_firstU (l : Launch) (dC : Nat → ClassId) (dI : Nat → Nat → Nat) (cI cC cZ : ClassId) (sz : Nat) (h0 now mind lts told rdr sea way ref ksc kle kto ti nk0 nk1 nk2 nk3 nk4 nk5 nk6 nk7 nk8 nk9 : Nat) (im : Int32) : Met l yX7_firstUnlikeTold wsX7_firstUnlikeTold ({ frames := 1, cells := 0, slots := 0, locals := 21 }) (va_Pc [.ref h0] (vx_B (dC, dI) (vx_T cI cC cZ) sz [(h0, .inr (5, [.ref now, .ref mind, .ref lts, .ref told, .ref rdr, .ref sea, .ref way, .ref ref, .ref ksc, .ref kle, .ref kto, .int im])), (told, .inr (0, [.ref ti, .int 0])), (now, .inr (2, [.int 0, .int 2, .int 1, .int 10, .int 0, .int 1, .ref nk0, .ref nk1, .ref nk2, .ref nk3, .ref nk4, .ref nk5, .ref nk6, .ref nk7, .ref nk8, .ref nk9]))])) (va_Qi (fun (r : Int32) (_ : Unit) => r = (-9)) (vx_C (dC, dI) (vx_T cI cC cZ) (va_A [(h0, .inr (5, [.ref now, .ref mind, .ref lts, .ref told, .ref rdr, .ref sea, .ref way, .ref ref, .ref ksc, .ref kle, .ref kto, .int im])), (told, .inr (0, [.ref ti, .int 0])), (now, .inr (2, [.int 0, .int 2, .int 1, .int 10, .int 0, .int 1, .ref nk0, .ref nk1, .ref nk2, .ref nk3, .ref nk4, .ref nk5, .ref nk6, .ref nk7, .ref nk8, .ref nk9]))] sz) (fun (u : Unit) => [(h0, .inr (5, [.ref now, .ref mind, .ref lts, .ref told, .ref rdr, .ref sea, .ref way, .ref ref, .ref ksc, .ref kle, .ref kto, .int im])), (told, .inr (0, [.ref ti, .int 0])), (now, .inr (2, [.int 0, .int 2, .int 1, .int 10, .int 0, .int 1, .ref nk0, .ref nk1, .ref nk2, .ref nk3, .ref nk4, .ref nk5, .ref nk6, .ref nk7, .ref nk8, .ref nk9]))])) (va_A [(h0, .inr (5, [.ref now, .ref mind, .ref lts, .ref told, .ref rdr, .ref sea, .ref way, .ref ref, .ref ksc, .ref kle, .ref kto, .int im])), (told, .inr (0, [.ref ti, .int 0])), (now, .inr (2, [.int 0, .int 2, .int 1, .int 10, .int 0, .int 1, .ref nk0, .ref nk1, .ref nk2, .ref nk3, .ref nk4, .ref nk5, .ref nk6, .ref nk7, .ref nk8, .ref nk9]))] sz)) 0 0 (va_A [(h0, .inr (5, [.ref now, .ref mind, .ref lts, .ref told, .ref rdr, .ref sea, .ref way, .ref ref, .ref ksc, .ref kle, .ref kto, .int im])), (told, .inr (0, [.ref ti, .int 0])), (now, .inr (2, [.int 0, .int 2, .int 1, .int 10, .int 0, .int 1, .ref nk0, .ref nk1, .ref nk2, .ref nk3, .ref nk4, .ref nk5, .ref nk6, .ref nk7, .ref nk8, .ref nk9]))] sz) := by
  refine Met.ofW (cc := cX7_firstUnlikeTold) (maxL := 3) (ret := (some .int)) (by decide) rfl ?_
  intro p e s m args below meth c s₁ B hml hv
  obtain ⟨rfl, hsz, hP, hK, hD0⟩ := hv
  have hx := B.exec
  have hb := B.bytes
  have hr := B.returns
  have hts := atoms_spec (ws := wsX7_firstUnlikeTold) B.pre
  have hown : s.vm.findClass RX7 = some m.cls := findClass_of_methodNamed B.named
  have hlocks := B.notSynchronized
  subst hsz
  have hD := hD0.self (sz := s.heap.size)
  generalize hAe : va_A [(h0, .inr (5, [.ref now, .ref mind, .ref lts, .ref told, .ref rdr, .ref sea, .ref way, .ref ref, .ref ksc, .ref kle, .ref kto, .int im])), (told, .inr (0, [.ref ti, .int 0])), (now, .inr (2, [.int 0, .int 2, .int 1, .int 10, .int 0, .int 1, .ref nk0, .ref nk1, .ref nk2, .ref nk3, .ref nk4, .ref nk5, .ref nk6, .ref nk7, .ref nk8, .ref nk9]))] s.heap.size = A at hD ⊢
  have hA : ∀ q : Nat, s.heap.size ≤ q → A q := fun q h => by rw [← hAe]; exact Or.inr h
  have hS : va_S A s.heap s.heap [] := va_S.rf
  have hl := lv_entry ([.ref h0]) (n := 3) (Nat.le_of_ble_eq_true rfl)
  rw [lg_entry_eq]
  generalize (lg_sl ([.ref h0]) ++ List.replicate (3 - (lg_sl ([.ref h0])).length) Slot.unset).toArray = ls at hl ⊢
  have hl : lv_has ls 3 [(0, .ref h0)] := hl
  have iX1 : ∀ w ∈ u_ws RX1 TX1 2, w ∈ wsX7_firstUnlikeTold := by decide +kernel
  have iX3 : ∀ w ∈ u_ws RX3 TX3 16, w ∈ wsX7_firstUnlikeTold := by decide +kernel
  have iX7 : ∀ w ∈ u_ws RX7 TX7 12, w ∈ wsX7_firstUnlikeTold := by decide +kernel
  refine lv_aload_n hx hb dX7_firstUnlikeTold_0 rfl (lv_at hl 0 rfl) ?_
  refine va_get (D := (dC, dI)) (ci := 5) (v := .ref told) (C := RX7) (T := TX7) (N := 12) hx hb hts iX7 hown hK hP 0 rfl rfl 3 (by decide) (hts (.fieldLink RX7 28 "NeighboursMark" "told" "LNeighboursMark$Numbers;") (by decide +kernel)) (fun _ h9 => h9) rfl dX7_firstUnlikeTold_1 ?_
  refine va_get (D := (dC, dI)) (ci := 0) (v := .int 0) (C := RX1) (T := TX1) (N := 2) hx hb hts iX1 hown hK hP 1 rfl rfl 1 (by decide) (hts (.fieldLink RX7 80 "NeighboursMark$Numbers" "size" "I") (by decide +kernel)) (fun _ h9 => h9) rfl dX7_firstUnlikeTold_4 ?_
  refine lv_aload_n hx hb dX7_firstUnlikeTold_7 rfl (lv_at hl 0 rfl) ?_
  refine va_get (D := (dC, dI)) (ci := 5) (v := .ref now) (C := RX7) (T := TX7) (N := 12) hx hb hts iX7 hown hK hP 0 rfl rfl 0 (by decide) (hts (.fieldLink RX7 10 "NeighboursMark" "now" "LNeighboursMark$School;") (by decide +kernel)) (fun _ h9 => h9) rfl dX7_firstUnlikeTold_8 ?_
  refine va_get (D := (dC, dI)) (ci := 2) (v := .int 0) (C := RX3) (T := TX3) (N := 16) hx hb hts iX3 hown hK hP 2 rfl rfl 0 (by decide) (hts (.fieldLink RX7 170 "NeighboursMark$School" "count" "I") (by decide +kernel)) (fun _ h9 => h9) rfl dX7_firstUnlikeTold_11 ?_
  refine va_mmin hx hb (by rw [hml]; exact hl.1.symm) hown (hts (.methodLink RX7 246 Lib.Math.min.name) (by decide +kernel)) (hts (.static Lib.Math.min.name) (by decide +kernel)) (hts (.initialized "java/lang/Math") (by decide +kernel)) (hts (.code Lib.Math.min.name Lib.Math.min.code 2 (some .int)) (by decide +kernel)) (Nat.le_of_ble_eq_true rfl) (Nat.le_of_ble_eq_true rfl) (Nat.le_of_ble_eq_true rfl) (Nat.le_of_ble_eq_true rfl) dX7_firstUnlikeTold_14 ?_
  refine lv_topi (fun x1 ex1 => ?_)
  have ex1 : 0 = x1 := (ex1.trans (by decide)).symm
  subst ex1
  refine lv_istore_n (lv' := [(1, .int 0), (0, .ref h0)]) hx hb dX7_firstUnlikeTold_17 rfl hl (by decide) rfl (fun ls hl => ?_)
  refine lv_iconst (v := 0) hx hb dX7_firstUnlikeTold_18 (by decide) ?_
  refine lv_istore_n (lv' := [(2, .int 0), (1, .int 0), (0, .ref h0)]) hx hb dX7_firstUnlikeTold_19 rfl hl (by decide) rfl (fun ls hl => ?_)
  refine lv_iload_n hx hb dX7_firstUnlikeTold_20 rfl (lv_at hl 0 rfl) ?_
  refine lv_iload_n hx hb dX7_firstUnlikeTold_21 rfl (lv_at hl 1 rfl) ?_
  refine lv_icmp_ge (tgt := 53) hx hb dX7_firstUnlikeTold_22 (by decide) (fun _ => ?_) (fun c0 => absurd (by decide) c0)
  refine lv_aload_n hx hb dX7_firstUnlikeTold_53 rfl (lv_at hl 2 rfl) ?_
  refine va_get (D := (dC, dI)) (ci := 5) (v := .ref told) (C := RX7) (T := TX7) (N := 12) hx hb hts iX7 hown hK hP 0 rfl rfl 3 (by decide) (hts (.fieldLink RX7 28 "NeighboursMark" "told" "LNeighboursMark$Numbers;") (by decide +kernel)) (fun _ h9 => h9) rfl dX7_firstUnlikeTold_54 ?_
  refine va_get (D := (dC, dI)) (ci := 0) (v := .int 0) (C := RX1) (T := TX1) (N := 2) hx hb hts iX1 hown hK hP 1 rfl rfl 1 (by decide) (hts (.fieldLink RX7 80 "NeighboursMark$Numbers" "size" "I") (by decide +kernel)) (fun _ h9 => h9) rfl dX7_firstUnlikeTold_57 ?_
  refine lv_aload_n hx hb dX7_firstUnlikeTold_60 rfl (lv_at hl 2 rfl) ?_
  refine va_get (D := (dC, dI)) (ci := 5) (v := .ref now) (C := RX7) (T := TX7) (N := 12) hx hb hts iX7 hown hK hP 0 rfl rfl 0 (by decide) (hts (.fieldLink RX7 10 "NeighboursMark" "now" "LNeighboursMark$School;") (by decide +kernel)) (fun _ h9 => h9) rfl dX7_firstUnlikeTold_61 ?_
  refine va_get (D := (dC, dI)) (ci := 2) (v := .int 0) (C := RX3) (T := TX3) (N := 16) hx hb hts iX3 hown hK hP 2 rfl rfl 0 (by decide) (hts (.fieldLink RX7 170 "NeighboursMark$School" "count" "I") (by decide +kernel)) (fun _ h9 => h9) rfl dX7_firstUnlikeTold_64 ?_
  refine lv_icmp_ne (tgt := 75) hx hb dX7_firstUnlikeTold_67 (by decide) (fun c0 => absurd (by decide) c0) (fun _ => ?_)
  refine lv_bipush (v := (-9)) hx hb dX7_firstUnlikeTold_70 (by decide) ?_
  refine lv_goto (tgt := 76) hx hb dX7_firstUnlikeTold_72 (by decide) ?_
  exact vx_iret (u := ()) hx hb hr hlocks hK hP hD hS [0, 1, 2] rfl (by decide) rfl dX7_firstUnlikeTold_76
