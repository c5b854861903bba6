set_option maxHeartbeats 4000000 in
set_option maxRecDepth 100000 in
theorem c_isFull64 (l : Launch) (dC : Nat → ClassId) (dI : Nat → Nat → Nat) (cI cC cZ : ClassId) (sz : Nat) (h0 it : Nat) (f : Nat → Int32) : Met l yX1_isFull wsX1_isFull ({ frames := 0, cells := 0, slots := 0, locals := 0 }) (va_Pc [.ref h0] (vx_B (dC, dI) (vx_T cI cC cZ) sz [(h0, .inr (0, [.ref it, .int 0])), (it, .inl (cI, 64, .inl f))])) (va_Qi (fun (r : Int32) (_ : Unit) => r = 0) (vx_C (dC, dI) (vx_T cI cC cZ) (va_A [(h0, .inr (0, [.ref it, .int 0])), (it, .inl (cI, 64, .inl f))] sz) (fun (u : Unit) => [(h0, .inr (0, [.ref it, .int 0])), (it, .inl (cI, 64, .inl f))])) (va_A [(h0, .inr (0, [.ref it, .int 0])), (it, .inl (cI, 64, .inl f))] sz)) 0 0 (va_A [(h0, .inr (0, [.ref it, .int 0])), (it, .inl (cI, 64, .inl f))] sz) := by
  refine Met.ofW (cc := cX1_isFull) (maxL := 1) (ret := (some .boolean)) (by decide) rfl ?_
  intro p e s m args below meth c s₁ B hml hv
  obtain ⟨rfl, hsz, hP, hK, hD0⟩ := hv
  have hx := B.exec
  have hb := B.bytes
  have hr := B.returns
  have hts := atoms_spec (ws := wsX1_isFull) B.pre
  have hown : s.vm.findClass RX1 = some m.cls := findClass_of_methodNamed B.named
  have hlocks := B.notSynchronized
  subst hsz
  have hD := hD0.self (sz := s.heap.size)
  generalize hAe : va_A [(h0, .inr (0, [.ref it, .int 0])), (it, .inl (cI, 64, .inl f))] s.heap.size = A at hD ⊢
  have hA : ∀ q : Nat, s.heap.size ≤ q → A q := fun q h => by rw [← hAe]; exact Or.inr h
  have hS : va_S A s.heap s.heap [] := va_S.rf
  have hl := lv_entry ([.ref h0]) (n := 1) (Nat.le_of_ble_eq_true rfl)
  rw [lg_entry_eq]
  generalize (lg_sl ([.ref h0]) ++ List.replicate (1 - (lg_sl ([.ref h0])).length) Slot.unset).toArray = ls at hl ⊢
  have hl : lv_has ls 1 [(0, .ref h0)] := hl
  have iX1 : ∀ w ∈ u_ws RX1 TX1 2, w ∈ wsX1_isFull := by decide +kernel
  refine lv_aload_n hx hb dX1_isFull_0 rfl (lv_at hl 0 rfl) ?_
  refine va_get (D := (dC, dI)) (ci := 0) (v := .int 0) (C := RX1) (T := TX1) (N := 2) hx hb hts iX1 hown hK hP 0 rfl rfl 1 (by decide) (hts (.fieldLink RX1 19 "NeighboursMark$Numbers" "size" "I") (by decide +kernel)) (fun _ h9 => h9) rfl dX1_isFull_1 ?_
  refine lv_aload_n hx hb dX1_isFull_4 rfl (lv_at hl 0 rfl) ?_
  refine va_get (D := (dC, dI)) (ci := 0) (v := .ref it) (C := RX1) (T := TX1) (N := 2) hx hb hts iX1 hown hK hP 0 rfl rfl 0 (by decide) (hts (.fieldLink RX1 13 "NeighboursMark$Numbers" "items" "[I") (by decide +kernel)) (fun _ h9 => h9) rfl dX1_isFull_5 ?_
  refine va_alen hx hb hK hP 1 0 rfl rfl (v := 64) rfl dX1_isFull_8 ?_
  refine lv_icmp_lt (tgt := 16) hx hb dX1_isFull_9 (by decide) (fun _ => ?_) (fun c0 => absurd (by decide) c0)
  refine lv_iconst (v := 0) hx hb dX1_isFull_16 (by decide) ?_
  exact vx_zret (u := ()) hx hb hr rfl hlocks hK hP hD hS [0, 1] rfl (by decide) rfl dX1_isFull_17
set_option maxHeartbeats 4000000 in
set_option maxRecDepth 100000 in
theorem c_add64 (l : Launch) (dC : Nat → ClassId) (dI : Nat → Nat → Nat) (cI cC cZ : ClassId) (sz : Nat) (h0 it : Nat) (v : Int32) (f : Nat → Int32) : Met l yX1_add wsX1_add ({ frames := 1, cells := 0, slots := 0, locals := 20 }) (va_Pc [.ref h0, .int v] (vx_B (dC, dI) (vx_T cI cC cZ) sz [(h0, .inr (0, [.ref it, .int 0])), (it, .inl (cI, 64, .inl f))])) (va_Qv (fun (_ : Unit) => True) (vx_C (dC, dI) (vx_T cI cC cZ) (va_A [(h0, .inr (0, [.ref it, .int 0])), (it, .inl (cI, 64, .inl f))] sz) (fun (u : Unit) => [(h0, .inr (0, [.ref it, .int 1])), (it, .inl (cI, 64, .inl (upd f 0 v)))])) (va_A [(h0, .inr (0, [.ref it, .int 0])), (it, .inl (cI, 64, .inl f))] sz)) 0 0 (va_A [(h0, .inr (0, [.ref it, .int 0])), (it, .inl (cI, 64, .inl f))] sz) := by
  refine Met.ofW (cc := cX1_add) (maxL := 2) (ret := none) (by decide) rfl ?_
  intro p e s m args below meth c s₁ B hml hv
  obtain ⟨rfl, hsz, hP, hK, hD0⟩ := hv
  have hx := B.exec
  have hb := B.bytes
  have hr := B.returns
  have hts := atoms_spec (ws := wsX1_add) B.pre
  have hown : s.vm.findClass RX1 = some m.cls := findClass_of_methodNamed B.named
  have hlocks := B.notSynchronized
  subst hsz
  have hD := hD0.self (sz := s.heap.size)
  generalize hAe : va_A [(h0, .inr (0, [.ref it, .int 0])), (it, .inl (cI, 64, .inl f))] s.heap.size = A at hD ⊢
  have hA : ∀ q : Nat, s.heap.size ≤ q → A q := fun q h => by rw [← hAe]; exact Or.inr h
  have hS : va_S A s.heap s.heap [] := va_S.rf
  have hl := lv_entry ([.ref h0, .int v]) (n := 2) (Nat.le_of_ble_eq_true rfl)
  rw [lg_entry_eq]
  generalize (lg_sl ([.ref h0, .int v]) ++ List.replicate (2 - (lg_sl ([.ref h0, .int v])).length) Slot.unset).toArray = ls at hl ⊢
  have hl : lv_has ls 2 [(0, .ref h0), (1, .int v)] := hl
  have iX1 : ∀ w ∈ u_ws RX1 TX1 2, w ∈ wsX1_add := by decide +kernel
  refine lv_aload_n hx hb dX1_add_0 rfl (lv_at hl 0 rfl) ?_
  have hPc := hP.sub (ws' := [(h0, .inr (0, [.ref it, .int 0])), (it, .inl (cI, 64, .inl f))]) [0, 1] rfl
  have hDc := hD.sub (ws' := [(h0, .inr (0, [.ref it, .int 0])), (it, .inl (cI, 64, .inl f))]) [0, 1] (by decide) rfl
  refine vx_calli (wc := [(h0, .inr (0, [.ref it, .int 0])), (it, .inl (cI, 64, .inl f))]) (wr := []) hP hD hS hA [0, 1] [] rfl rfl (by decide) (by decide) (va_runV (As := []) (rest := []) ⟨hx, hb, hml, hown, hts⟩ (c_isFull64 l dC dI cI cC cZ _ h0 it f) (cwV 0 hts gX1_add_X1_isFull rfl rfl rfl (by decide +kernel) ⟨Nat.le_of_ble_eq_true rfl, Nat.le_of_ble_eq_true rfl⟩) ⟨vx_blind, va_recv hK hPc (ci := 0) (q0 := 0) rfl rfl, vx_pre hK hPc hDc⟩ rfl rfl hl.1 rfl (lv_room (Nat.le_of_ble_eq_true rfl)) dX1_add_1 ⟨Nat.le_of_ble_eq_true rfl, Nat.le_of_ble_eq_true rfl⟩) (fun r2 u1 H locs hw3 hP hD hS => ?_)
  have hP : va_P (dC, dI) vwCl [(h0, .inr (0, [.ref it, .int 0])), (it, .inl (cI, 64, .inl f))] H := hP
  have hD : va_D A [(h0, .inr (0, [.ref it, .int 0])), (it, .inl (cI, 64, .inl f))] := hD
  have er2 : 0 = r2 := Eq.symm hw3
  subst er2
  refine lv_if_ne (tgt := 27) hx hb dX1_add_4 (by decide) (fun c0 => absurd (by decide) c0) (fun _ => ?_)
  refine lv_aload_n hx hb dX1_add_7 rfl (lv_at hl 0 rfl) ?_
  refine va_get (D := (dC, dI)) (ci := 0) (v := .ref it) (C := RX1) (T := TX1) (N := 2) hx hb hts iX1 hown hK hP 0 rfl rfl 0 (by decide) (hts (.fieldLink RX1 13 "NeighboursMark$Numbers" "items" "[I") (by decide +kernel)) (fun _ h9 => h9) rfl dX1_add_8 ?_
  refine lv_aload_n hx hb dX1_add_11 rfl (lv_at hl 0 rfl) ?_
  refine va_get (D := (dC, dI)) (ci := 0) (v := .int 0) (C := RX1) (T := TX1) (N := 2) hx hb hts iX1 hown hK hP 0 rfl rfl 1 (by decide) (hts (.fieldLink RX1 19 "NeighboursMark$Numbers" "size" "I") (by decide +kernel)) (fun _ h9 => h9) rfl dX1_add_12 ?_
  refine lv_iload_n hx hb dX1_add_15 rfl (lv_at hl 1 rfl) ?_
  refine va_iast hx hb hK hP hD hS 1 0 rfl rfl (by unfold vp_in; decide) dX1_add_16 (fun H locs hP hD hS => ?_)
  have hP : va_P (dC, dI) vwCl [(h0, .inr (0, [.ref it, .int 0])), (it, .inl (cI, 64, .inl (upd f 0 v)))] H := hP
  have hD : va_D A [(h0, .inr (0, [.ref it, .int 0])), (it, .inl (cI, 64, .inl (upd f 0 v)))] := hD
  refine lv_aload_n hx hb dX1_add_17 rfl (lv_at hl 0 rfl) ?_
  refine lv_dup hx hb dX1_add_18 rfl ?_
  refine va_get (D := (dC, dI)) (ci := 0) (v := .int 0) (C := RX1) (T := TX1) (N := 2) hx hb hts iX1 hown hK hP 0 rfl rfl 1 (by decide) (hts (.fieldLink RX1 19 "NeighboursMark$Numbers" "size" "I") (by decide +kernel)) (fun _ h9 => h9) rfl dX1_add_19 ?_
  refine lv_iconst (v := 1) hx hb dX1_add_22 (by decide) ?_
  refine lv_iadd hx hb dX1_add_23 ?_
  refine lv_topi (fun x4 ex4 => ?_)
  have ex4 : 1 = x4 := (ex4.trans (by decide)).symm
  subst ex4
  refine va_put (D := (dC, dI)) (ci := 0) (v := .int 1) (ty := .int) (C := RX1) (T := TX1) (N := 2) hx hb hts iX1 tyX1 tyX1_ok nmX1 hown hK hP hD hS 0 rfl rfl 1 (by decide) (hts (.fieldLink RX1 19 "NeighboursMark$Numbers" "size" "I") (by decide +kernel)) (fun _ h9 => h9) rfl (by decide +kernel) rfl rfl (Nat.le_of_ble_eq_true rfl) dX1_add_24 (fun H locs hP hD hS => ?_)
  have hP : va_P (dC, dI) vwCl [(h0, .inr (0, [.ref it, .int 1])), (it, .inl (cI, 64, .inl (upd f 0 v)))] H := hP
  have hD : va_D A [(h0, .inr (0, [.ref it, .int 1])), (it, .inl (cI, 64, .inl (upd f 0 v)))] := hD
  exact vx_vret (u := ()) hx hb hr hlocks hK hP hD hS [0, 1] rfl (by decide) trivial dX1_add_27
set_option maxHeartbeats 4000000 in
set_option maxRecDepth 100000 in
theorem c_isFull6 (l : Launch) (dC : Nat → ClassId) (dI : Nat → Nat → Nat) (cI cC cZ : ClassId) (sz : Nat) (h0 it : Nat) (f : Nat → Int32) : Met l yX1_isFull wsX1_isFull ({ frames := 0, cells := 0, slots := 0, locals := 0 }) (va_Pc [.ref h0] (vx_B (dC, dI) (vx_T cI cC cZ) sz [(h0, .inr (0, [.ref it, .int 0])), (it, .inl (cI, 6, .inl f))])) (va_Qi (fun (r : Int32) (_ : Unit) => r = 0) (vx_C (dC, dI) (vx_T cI cC cZ) (va_A [(h0, .inr (0, [.ref it, .int 0])), (it, .inl (cI, 6, .inl f))] sz) (fun (u : Unit) => [(h0, .inr (0, [.ref it, .int 0])), (it, .inl (cI, 6, .inl f))])) (va_A [(h0, .inr (0, [.ref it, .int 0])), (it, .inl (cI, 6, .inl f))] sz)) 0 0 (va_A [(h0, .inr (0, [.ref it, .int 0])), (it, .inl (cI, 6, .inl f))] sz) := by
  refine Met.ofW (cc := cX1_isFull) (maxL := 1) (ret := (some .boolean)) (by decide) rfl ?_
  intro p e s m args below meth c s₁ B hml hv
  obtain ⟨rfl, hsz, hP, hK, hD0⟩ := hv
  have hx := B.exec
  have hb := B.bytes
  have hr := B.returns
  have hts := atoms_spec (ws := wsX1_isFull) B.pre
  have hown : s.vm.findClass RX1 = some m.cls := findClass_of_methodNamed B.named
  have hlocks := B.notSynchronized
  subst hsz
  have hD := hD0.self (sz := s.heap.size)
  generalize hAe : va_A [(h0, .inr (0, [.ref it, .int 0])), (it, .inl (cI, 6, .inl f))] s.heap.size = A at hD ⊢
  have hA : ∀ q : Nat, s.heap.size ≤ q → A q := fun q h => by rw [← hAe]; exact Or.inr h
  have hS : va_S A s.heap s.heap [] := va_S.rf
  have hl := lv_entry ([.ref h0]) (n := 1) (Nat.le_of_ble_eq_true rfl)
  rw [lg_entry_eq]
  generalize (lg_sl ([.ref h0]) ++ List.replicate (1 - (lg_sl ([.ref h0])).length) Slot.unset).toArray = ls at hl ⊢
  have hl : lv_has ls 1 [(0, .ref h0)] := hl
  have iX1 : ∀ w ∈ u_ws RX1 TX1 2, w ∈ wsX1_isFull := by decide +kernel
  refine lv_aload_n hx hb dX1_isFull_0 rfl (lv_at hl 0 rfl) ?_
  refine va_get (D := (dC, dI)) (ci := 0) (v := .int 0) (C := RX1) (T := TX1) (N := 2) hx hb hts iX1 hown hK hP 0 rfl rfl 1 (by decide) (hts (.fieldLink RX1 19 "NeighboursMark$Numbers" "size" "I") (by decide +kernel)) (fun _ h9 => h9) rfl dX1_isFull_1 ?_
  refine lv_aload_n hx hb dX1_isFull_4 rfl (lv_at hl 0 rfl) ?_
  refine va_get (D := (dC, dI)) (ci := 0) (v := .ref it) (C := RX1) (T := TX1) (N := 2) hx hb hts iX1 hown hK hP 0 rfl rfl 0 (by decide) (hts (.fieldLink RX1 13 "NeighboursMark$Numbers" "items" "[I") (by decide +kernel)) (fun _ h9 => h9) rfl dX1_isFull_5 ?_
  refine va_alen hx hb hK hP 1 0 rfl rfl (v := 6) rfl dX1_isFull_8 ?_
  refine lv_icmp_lt (tgt := 16) hx hb dX1_isFull_9 (by decide) (fun _ => ?_) (fun c0 => absurd (by decide) c0)
  refine lv_iconst (v := 0) hx hb dX1_isFull_16 (by decide) ?_
  exact vx_zret (u := ()) hx hb hr rfl hlocks hK hP hD hS [0, 1] rfl (by decide) rfl dX1_isFull_17
set_option maxHeartbeats 4000000 in
set_option maxRecDepth 100000 in
theorem c_add6 (l : Launch) (dC : Nat → ClassId) (dI : Nat → Nat → Nat) (cI cC cZ : ClassId) (sz : Nat) (h0 it : Nat) (v : Int32) (f : Nat → Int32) : Met l yX1_add wsX1_add ({ frames := 1, cells := 0, slots := 0, locals := 20 }) (va_Pc [.ref h0, .int v] (vx_B (dC, dI) (vx_T cI cC cZ) sz [(h0, .inr (0, [.ref it, .int 0])), (it, .inl (cI, 6, .inl f))])) (va_Qv (fun (_ : Unit) => True) (vx_C (dC, dI) (vx_T cI cC cZ) (va_A [(h0, .inr (0, [.ref it, .int 0])), (it, .inl (cI, 6, .inl f))] sz) (fun (u : Unit) => [(h0, .inr (0, [.ref it, .int 1])), (it, .inl (cI, 6, .inl (upd f 0 v)))])) (va_A [(h0, .inr (0, [.ref it, .int 0])), (it, .inl (cI, 6, .inl f))] sz)) 0 0 (va_A [(h0, .inr (0, [.ref it, .int 0])), (it, .inl (cI, 6, .inl f))] sz) := by
  refine Met.ofW (cc := cX1_add) (maxL := 2) (ret := none) (by decide) rfl ?_
  intro p e s m args below meth c s₁ B hml hv
  obtain ⟨rfl, hsz, hP, hK, hD0⟩ := hv
  have hx := B.exec
  have hb := B.bytes
  have hr := B.returns
  have hts := atoms_spec (ws := wsX1_add) B.pre
  have hown : s.vm.findClass RX1 = some m.cls := findClass_of_methodNamed B.named
  have hlocks := B.notSynchronized
  subst hsz
  have hD := hD0.self (sz := s.heap.size)
  generalize hAe : va_A [(h0, .inr (0, [.ref it, .int 0])), (it, .inl (cI, 6, .inl f))] s.heap.size = A at hD ⊢
  have hA : ∀ q : Nat, s.heap.size ≤ q → A q := fun q h => by rw [← hAe]; exact Or.inr h
  have hS : va_S A s.heap s.heap [] := va_S.rf
  have hl := lv_entry ([.ref h0, .int v]) (n := 2) (Nat.le_of_ble_eq_true rfl)
  rw [lg_entry_eq]
  generalize (lg_sl ([.ref h0, .int v]) ++ List.replicate (2 - (lg_sl ([.ref h0, .int v])).length) Slot.unset).toArray = ls at hl ⊢
  have hl : lv_has ls 2 [(0, .ref h0), (1, .int v)] := hl
  have iX1 : ∀ w ∈ u_ws RX1 TX1 2, w ∈ wsX1_add := by decide +kernel
  refine lv_aload_n hx hb dX1_add_0 rfl (lv_at hl 0 rfl) ?_
  have hPc := hP.sub (ws' := [(h0, .inr (0, [.ref it, .int 0])), (it, .inl (cI, 6, .inl f))]) [0, 1] rfl
  have hDc := hD.sub (ws' := [(h0, .inr (0, [.ref it, .int 0])), (it, .inl (cI, 6, .inl f))]) [0, 1] (by decide) rfl
  refine vx_calli (wc := [(h0, .inr (0, [.ref it, .int 0])), (it, .inl (cI, 6, .inl f))]) (wr := []) hP hD hS hA [0, 1] [] rfl rfl (by decide) (by decide) (va_runV (As := []) (rest := []) ⟨hx, hb, hml, hown, hts⟩ (c_isFull6 l dC dI cI cC cZ _ h0 it f) (cwV 0 hts gX1_add_X1_isFull rfl rfl rfl (by decide +kernel) ⟨Nat.le_of_ble_eq_true rfl, Nat.le_of_ble_eq_true rfl⟩) ⟨vx_blind, va_recv hK hPc (ci := 0) (q0 := 0) rfl rfl, vx_pre hK hPc hDc⟩ rfl rfl hl.1 rfl (lv_room (Nat.le_of_ble_eq_true rfl)) dX1_add_1 ⟨Nat.le_of_ble_eq_true rfl, Nat.le_of_ble_eq_true rfl⟩) (fun r2 u1 H locs hw3 hP hD hS => ?_)
  have hP : va_P (dC, dI) vwCl [(h0, .inr (0, [.ref it, .int 0])), (it, .inl (cI, 6, .inl f))] H := hP
  have hD : va_D A [(h0, .inr (0, [.ref it, .int 0])), (it, .inl (cI, 6, .inl f))] := hD
  have er2 : 0 = r2 := Eq.symm hw3
  subst er2
  refine lv_if_ne (tgt := 27) hx hb dX1_add_4 (by decide) (fun c0 => absurd (by decide) c0) (fun _ => ?_)
  refine lv_aload_n hx hb dX1_add_7 rfl (lv_at hl 0 rfl) ?_
  refine va_get (D := (dC, dI)) (ci := 0) (v := .ref it) (C := RX1) (T := TX1) (N := 2) hx hb hts iX1 hown hK hP 0 rfl rfl 0 (by decide) (hts (.fieldLink RX1 13 "NeighboursMark$Numbers" "items" "[I") (by decide +kernel)) (fun _ h9 => h9) rfl dX1_add_8 ?_
  refine lv_aload_n hx hb dX1_add_11 rfl (lv_at hl 0 rfl) ?_
  refine va_get (D := (dC, dI)) (ci := 0) (v := .int 0) (C := RX1) (T := TX1) (N := 2) hx hb hts iX1 hown hK hP 0 rfl rfl 1 (by decide) (hts (.fieldLink RX1 19 "NeighboursMark$Numbers" "size" "I") (by decide +kernel)) (fun _ h9 => h9) rfl dX1_add_12 ?_
  refine lv_iload_n hx hb dX1_add_15 rfl (lv_at hl 1 rfl) ?_
  refine va_iast hx hb hK hP hD hS 1 0 rfl rfl (by unfold vp_in; decide) dX1_add_16 (fun H locs hP hD hS => ?_)
  have hP : va_P (dC, dI) vwCl [(h0, .inr (0, [.ref it, .int 0])), (it, .inl (cI, 6, .inl (upd f 0 v)))] H := hP
  have hD : va_D A [(h0, .inr (0, [.ref it, .int 0])), (it, .inl (cI, 6, .inl (upd f 0 v)))] := hD
  refine lv_aload_n hx hb dX1_add_17 rfl (lv_at hl 0 rfl) ?_
  refine lv_dup hx hb dX1_add_18 rfl ?_
  refine va_get (D := (dC, dI)) (ci := 0) (v := .int 0) (C := RX1) (T := TX1) (N := 2) hx hb hts iX1 hown hK hP 0 rfl rfl 1 (by decide) (hts (.fieldLink RX1 19 "NeighboursMark$Numbers" "size" "I") (by decide +kernel)) (fun _ h9 => h9) rfl dX1_add_19 ?_
  refine lv_iconst (v := 1) hx hb dX1_add_22 (by decide) ?_
  refine lv_iadd hx hb dX1_add_23 ?_
  refine lv_topi (fun x4 ex4 => ?_)
  have ex4 : 1 = x4 := (ex4.trans (by decide)).symm
  subst ex4
  refine va_put (D := (dC, dI)) (ci := 0) (v := .int 1) (ty := .int) (C := RX1) (T := TX1) (N := 2) hx hb hts iX1 tyX1 tyX1_ok nmX1 hown hK hP hD hS 0 rfl rfl 1 (by decide) (hts (.fieldLink RX1 19 "NeighboursMark$Numbers" "size" "I") (by decide +kernel)) (fun _ h9 => h9) rfl (by decide +kernel) rfl rfl (Nat.le_of_ble_eq_true rfl) dX1_add_24 (fun H locs hP hD hS => ?_)
  have hP : va_P (dC, dI) vwCl [(h0, .inr (0, [.ref it, .int 1])), (it, .inl (cI, 6, .inl (upd f 0 v)))] H := hP
  have hD : va_D A [(h0, .inr (0, [.ref it, .int 1])), (it, .inl (cI, 6, .inl (upd f 0 v)))] := hD
  exact vx_vret (u := ()) hx hb hr hlocks hK hP hD hS [0, 1] rfl (by decide) trivial dX1_add_27
set_option maxHeartbeats 4000000 in
set_option maxRecDepth 100000 in
theorem c_at (l : Launch) (dC : Nat → ClassId) (dI : Nat → Nat → Nat) (cI cC cZ : ClassId) (sz : Nat) (h0 it : Nat) : Met l yX1_at wsX1_at ({ frames := 0, cells := 0, slots := 0, locals := 0 }) (va_Pc [.ref h0, .int 0] (vx_B (dC, dI) (vx_T cI cC cZ) sz [(h0, .inr (0, [.ref it, .int 0]))])) (va_Qi (fun (r : Int32) (_ : Unit) => r = (-1)) (vx_C (dC, dI) (vx_T cI cC cZ) (va_A [(h0, .inr (0, [.ref it, .int 0]))] sz) (fun (u : Unit) => [(h0, .inr (0, [.ref it, .int 0]))])) (va_A [(h0, .inr (0, [.ref it, .int 0]))] sz)) 0 0 (va_A [(h0, .inr (0, [.ref it, .int 0]))] sz) := by
  refine Met.ofW (cc := cX1_at) (maxL := 2) (ret := (some .int)) (by decide) rfl ?_
  intro p e s m args below meth c s₁ B hml hv
  obtain ⟨rfl, hsz, hP, hK, hD0⟩ := hv
  have hx := B.exec
  have hb := B.bytes
  have hr := B.returns
  have hts := atoms_spec (ws := wsX1_at) B.pre
  have hown : s.vm.findClass RX1 = some m.cls := findClass_of_methodNamed B.named
  have hlocks := B.notSynchronized
  subst hsz
  have hD := hD0.self (sz := s.heap.size)
  generalize hAe : va_A [(h0, .inr (0, [.ref it, .int 0]))] s.heap.size = A at hD ⊢
  have hA : ∀ q : Nat, s.heap.size ≤ q → A q := fun q h => by rw [← hAe]; exact Or.inr h
  have hS : va_S A s.heap s.heap [] := va_S.rf
  have hl := lv_entry ([.ref h0, .int 0]) (n := 2) (Nat.le_of_ble_eq_true rfl)
  rw [lg_entry_eq]
  generalize (lg_sl ([.ref h0, .int 0]) ++ List.replicate (2 - (lg_sl ([.ref h0, .int 0])).length) Slot.unset).toArray = ls at hl ⊢
  have hl : lv_has ls 2 [(0, .ref h0), (1, .int 0)] := hl
  have iX1 : ∀ w ∈ u_ws RX1 TX1 2, w ∈ wsX1_at := by decide +kernel
  refine lv_iload_n hx hb dX1_at_0 rfl (lv_at hl 1 rfl) ?_
  refine lv_if_lt (tgt := 21) hx hb dX1_at_1 (by decide) (fun c0 => absurd c0 (by decide)) (fun _ => ?_)
  refine lv_iload_n hx hb dX1_at_4 rfl (lv_at hl 1 rfl) ?_
  refine lv_aload_n hx hb dX1_at_5 rfl (lv_at hl 0 rfl) ?_
  refine va_get (D := (dC, dI)) (ci := 0) (v := .int 0) (C := RX1) (T := TX1) (N := 2) hx hb hts iX1 hown hK hP 0 rfl rfl 1 (by decide) (hts (.fieldLink RX1 19 "NeighboursMark$Numbers" "size" "I") (by decide +kernel)) (fun _ h9 => h9) rfl dX1_at_6 ?_
  refine lv_icmp_ge (tgt := 21) hx hb dX1_at_9 (by decide) (fun _ => ?_) (fun c0 => absurd (by decide) c0)
  refine lv_iconst (v := (-1)) hx hb dX1_at_21 (by decide) ?_
  exact vx_iret (u := ()) hx hb hr hlocks hK hP hD hS [0] rfl (by decide) rfl dX1_at_22
set_option maxHeartbeats 4000000 in
set_option maxRecDepth 100000 in
theorem c_clear (l : Launch) (dC : Nat → ClassId) (dI : Nat → Nat → Nat) (cI cC cZ : ClassId) (sz : Nat) (h0 it : Nat) : Met l yX1_clear wsX1_clear ({ frames := 0, cells := 0, slots := 0, locals := 0 }) (va_Pc [.ref h0] (vx_B (dC, dI) (vx_T cI cC cZ) sz [(h0, .inr (0, [.ref it, .int 0]))])) (va_Qv (fun (_ : Unit) => True) (vx_C (dC, dI) (vx_T cI cC cZ) (va_A [(h0, .inr (0, [.ref it, .int 0]))] sz) (fun (u : Unit) => [(h0, .inr (0, [.ref it, .int 0]))])) (va_A [(h0, .inr (0, [.ref it, .int 0]))] sz)) 0 0 (va_A [(h0, .inr (0, [.ref it, .int 0]))] sz) := by
  refine Met.ofW (cc := cX1_clear) (maxL := 1) (ret := none) (by decide) rfl ?_
  intro p e s m args below meth c s₁ B hml hv
  obtain ⟨rfl, hsz, hP, hK, hD0⟩ := hv
  have hx := B.exec
  have hb := B.bytes
  have hr := B.returns
  have hts := atoms_spec (ws := wsX1_clear) B.pre
  have hown : s.vm.findClass RX1 = some m.cls := findClass_of_methodNamed B.named
  have hlocks := B.notSynchronized
  subst hsz
  have hD := hD0.self (sz := s.heap.size)
  generalize hAe : va_A [(h0, .inr (0, [.ref it, .int 0]))] s.heap.size = A at hD ⊢
  have hA : ∀ q : Nat, s.heap.size ≤ q → A q := fun q h => by rw [← hAe]; exact Or.inr h
  have hS : va_S A s.heap s.heap [] := va_S.rf
  have hl := lv_entry ([.ref h0]) (n := 1) (Nat.le_of_ble_eq_true rfl)
  rw [lg_entry_eq]
  generalize (lg_sl ([.ref h0]) ++ List.replicate (1 - (lg_sl ([.ref h0])).length) Slot.unset).toArray = ls at hl ⊢
  have hl : lv_has ls 1 [(0, .ref h0)] := hl
  have iX1 : ∀ w ∈ u_ws RX1 TX1 2, w ∈ wsX1_clear := by decide +kernel
  refine lv_aload_n hx hb dX1_clear_0 rfl (lv_at hl 0 rfl) ?_
  refine lv_iconst (v := 0) hx hb dX1_clear_1 (by decide) ?_
  refine va_put (D := (dC, dI)) (ci := 0) (v := .int 0) (ty := .int) (C := RX1) (T := TX1) (N := 2) hx hb hts iX1 tyX1 tyX1_ok nmX1 hown hK hP hD hS 0 rfl rfl 1 (by decide) (hts (.fieldLink RX1 19 "NeighboursMark$Numbers" "size" "I") (by decide +kernel)) (fun _ h9 => h9) rfl (by decide +kernel) rfl rfl (Nat.le_of_ble_eq_true rfl) dX1_clear_2 (fun H locs hP hD hS => ?_)
  have hP : va_P (dC, dI) vwCl [(h0, .inr (0, [.ref it, .int 0]))] H := hP
  have hD : va_D A [(h0, .inr (0, [.ref it, .int 0]))] := hD
  exact vx_vret (u := ()) hx hb hr hlocks hK hP hD hS [0] rfl (by decide) trivial dX1_clear_5
set_option maxHeartbeats 4000000 in
set_option maxRecDepth 100000 in
theorem c_ncopy64 (l : Launch) (dC : Nat → ClassId) (dI : Nat → Nat → Nat) (cI cC cZ : ClassId) (sz : Nat) (h0 h1 it jt : Nat) (f g : Nat → Int32) : Met l yX1_copyFrom wsX1_copyFrom ({ frames := 1, cells := 0, slots := 0, locals := 40 }) (va_Pc [.ref h0, .ref h1] (vx_B (dC, dI) (vx_T cI cC cZ) sz [(h0, .inr (0, [.ref it, .int 0])), (it, .inl (cI, 64, .inl f)), (h1, .inr (0, [.ref jt, .int 0])), (jt, .inl (cI, 64, .inl g))])) (va_Qv (fun (_ : Unit) => True) (vx_C (dC, dI) (vx_T cI cC cZ) (va_A [(h0, .inr (0, [.ref it, .int 0])), (it, .inl (cI, 64, .inl f)), (h1, .inr (0, [.ref jt, .int 0])), (jt, .inl (cI, 64, .inl g))] sz) (fun (u : Unit) => [(h0, .inr (0, [.ref it, .int 0])), (it, .inl (cI, 64, .inl (va_cpy g f 0 0 0))), (h1, .inr (0, [.ref jt, .int 0])), (jt, .inl (cI, 64, .inl g))])) (va_A [(h0, .inr (0, [.ref it, .int 0])), (it, .inl (cI, 64, .inl f)), (h1, .inr (0, [.ref jt, .int 0])), (jt, .inl (cI, 64, .inl g))] sz)) 0 0 (va_A [(h0, .inr (0, [.ref it, .int 0])), (it, .inl (cI, 64, .inl f)), (h1, .inr (0, [.ref jt, .int 0])), (jt, .inl (cI, 64, .inl g))] sz) := by
  refine Met.ofW (cc := cX1_copyFrom) (maxL := 2) (ret := none) (by decide) rfl ?_
  intro p e s m args below meth c s₁ B hml hv
  obtain ⟨rfl, hsz, hP, hK, hD0⟩ := hv
  have hx := B.exec
  have hb := B.bytes
  have hr := B.returns
  have hts := atoms_spec (ws := wsX1_copyFrom) B.pre
  have hown : s.vm.findClass RX1 = some m.cls := findClass_of_methodNamed B.named
  have hlocks := B.notSynchronized
  subst hsz
  have hD := hD0.self (sz := s.heap.size)
  generalize hAe : va_A [(h0, .inr (0, [.ref it, .int 0])), (it, .inl (cI, 64, .inl f)), (h1, .inr (0, [.ref jt, .int 0])), (jt, .inl (cI, 64, .inl g))] s.heap.size = A at hD ⊢
  have hA : ∀ q : Nat, s.heap.size ≤ q → A q := fun q h => by rw [← hAe]; exact Or.inr h
  have hS : va_S A s.heap s.heap [] := va_S.rf
  have hl := lv_entry ([.ref h0, .ref h1]) (n := 2) (Nat.le_of_ble_eq_true rfl)
  rw [lg_entry_eq]
  generalize (lg_sl ([.ref h0, .ref h1]) ++ List.replicate (2 - (lg_sl ([.ref h0, .ref h1])).length) Slot.unset).toArray = ls at hl ⊢
  have hl : lv_has ls 2 [(0, .ref h0), (1, .ref h1)] := hl
  have iX1 : ∀ w ∈ u_ws RX1 TX1 2, w ∈ wsX1_copyFrom := by decide +kernel
  refine lv_aload_n hx hb dX1_copyFrom_0 rfl (lv_at hl 0 rfl) ?_
  refine lv_aload_n hx hb dX1_copyFrom_1 rfl (lv_at hl 1 rfl) ?_
  refine va_get (D := (dC, dI)) (ci := 0) (v := .int 0) (C := RX1) (T := TX1) (N := 2) hx hb hts iX1 hown hK hP 2 rfl rfl 1 (by decide) (hts (.fieldLink RX1 19 "NeighboursMark$Numbers" "size" "I") (by decide +kernel)) (fun _ h9 => h9) rfl dX1_copyFrom_2 ?_
  refine lv_aload_n hx hb dX1_copyFrom_5 rfl (lv_at hl 0 rfl) ?_
  refine va_get (D := (dC, dI)) (ci := 0) (v := .ref it) (C := RX1) (T := TX1) (N := 2) hx hb hts iX1 hown hK hP 0 rfl rfl 0 (by decide) (hts (.fieldLink RX1 13 "NeighboursMark$Numbers" "items" "[I") (by decide +kernel)) (fun _ h9 => h9) rfl dX1_copyFrom_6 ?_
  refine va_alen hx hb hK hP 1 0 rfl rfl (v := 64) rfl dX1_copyFrom_9 ?_
  refine va_mmin hx hb (by rw [hml]; exact hl.1.symm) hown (hts (.methodLink RX1 27 Lib.Math.min.name) (by decide +kernel)) (hts (.static Lib.Math.min.name) (by decide +kernel)) (hts (.initialized "java/lang/Math") (by decide +kernel)) (hts (.code Lib.Math.min.name Lib.Math.min.code 2 (some .int)) (by decide +kernel)) (Nat.le_of_ble_eq_true rfl) (Nat.le_of_ble_eq_true rfl) (Nat.le_of_ble_eq_true rfl) (Nat.le_of_ble_eq_true rfl) dX1_copyFrom_10 ?_
  refine lv_topi (fun x1 ex1 => ?_)
  have ex1 : 0 = x1 := (ex1.trans (by decide)).symm
  subst ex1
  refine va_put (D := (dC, dI)) (ci := 0) (v := .int 0) (ty := .int) (C := RX1) (T := TX1) (N := 2) hx hb hts iX1 tyX1 tyX1_ok nmX1 hown hK hP hD hS 0 rfl rfl 1 (by decide) (hts (.fieldLink RX1 19 "NeighboursMark$Numbers" "size" "I") (by decide +kernel)) (fun _ h9 => h9) rfl (by decide +kernel) rfl rfl (Nat.le_of_ble_eq_true rfl) dX1_copyFrom_13 (fun H locs hP hD hS => ?_)
  have hP : va_P (dC, dI) vwCl [(h0, .inr (0, [.ref it, .int 0])), (it, .inl (cI, 64, .inl f)), (h1, .inr (0, [.ref jt, .int 0])), (jt, .inl (cI, 64, .inl g))] H := hP
  have hD : va_D A [(h0, .inr (0, [.ref it, .int 0])), (it, .inl (cI, 64, .inl f)), (h1, .inr (0, [.ref jt, .int 0])), (jt, .inl (cI, 64, .inl g))] := hD
  refine lv_aload_n hx hb dX1_copyFrom_16 rfl (lv_at hl 1 rfl) ?_
  refine va_get (D := (dC, dI)) (ci := 0) (v := .ref jt) (C := RX1) (T := TX1) (N := 2) hx hb hts iX1 hown hK hP 2 rfl rfl 0 (by decide) (hts (.fieldLink RX1 13 "NeighboursMark$Numbers" "items" "[I") (by decide +kernel)) (fun _ h9 => h9) rfl dX1_copyFrom_17 ?_
  refine lv_iconst (v := 0) hx hb dX1_copyFrom_20 (by decide) ?_
  refine lv_aload_n hx hb dX1_copyFrom_21 rfl (lv_at hl 0 rfl) ?_
  refine va_get (D := (dC, dI)) (ci := 0) (v := .ref it) (C := RX1) (T := TX1) (N := 2) hx hb hts iX1 hown hK hP 0 rfl rfl 0 (by decide) (hts (.fieldLink RX1 13 "NeighboursMark$Numbers" "items" "[I") (by decide +kernel)) (fun _ h9 => h9) rfl dX1_copyFrom_22 ?_
  refine lv_iconst (v := 0) hx hb dX1_copyFrom_25 (by decide) ?_
  refine lv_aload_n hx hb dX1_copyFrom_26 rfl (lv_at hl 0 rfl) ?_
  refine va_get (D := (dC, dI)) (ci := 0) (v := .int 0) (C := RX1) (T := TX1) (N := 2) hx hb hts iX1 hown hK hP 0 rfl rfl 1 (by decide) (hts (.fieldLink RX1 19 "NeighboursMark$Numbers" "size" "I") (by decide +kernel)) (fun _ h9 => h9) rfl dX1_copyFrom_27 ?_
  refine va_copyi hx hb (by rw [hml]; exact hl.1.symm) hown (hts (.methodLink RX1 30 arraycopyName) (by decide +kernel)) (hts (.native arraycopyName) (by decide +kernel)) (hts (.static arraycopyName) (by decide +kernel)) (hts (.initialized "java/lang/System") (by decide +kernel)) hK hP hD hS 3 1 0 0 rfl rfl rfl rfl rfl (by decide) (by decide) (by decide) (by decide) (by decide) (fun _ _ => rfl) (Nat.le_of_ble_eq_true rfl) (Nat.le_of_ble_eq_true rfl) dX1_copyFrom_30 (fun H locs hP hD hS => ?_)
  have hP : va_P (dC, dI) vwCl [(h0, .inr (0, [.ref it, .int 0])), (it, .inl (cI, 64, .inl (va_cpy g f 0 0 0))), (h1, .inr (0, [.ref jt, .int 0])), (jt, .inl (cI, 64, .inl g))] H := hP
  have hD : va_D A [(h0, .inr (0, [.ref it, .int 0])), (it, .inl (cI, 64, .inl (va_cpy g f 0 0 0))), (h1, .inr (0, [.ref jt, .int 0])), (jt, .inl (cI, 64, .inl g))] := hD
  exact vx_vret (u := ()) hx hb hr hlocks hK hP hD hS [0, 1, 2, 3] rfl (by decide) trivial dX1_copyFrom_33
set_option maxHeartbeats 4000000 in
set_option maxRecDepth 100000 in
theorem c_ncopy6 (l : Launch) (dC : Nat → ClassId) (dI : Nat → Nat → Nat) (cI cC cZ : ClassId) (sz : Nat) (h0 h1 it jt : Nat) (f g : Nat → Int32) : Met l yX1_copyFrom wsX1_copyFrom ({ frames := 1, cells := 0, slots := 0, locals := 40 }) (va_Pc [.ref h0, .ref h1] (vx_B (dC, dI) (vx_T cI cC cZ) sz [(h0, .inr (0, [.ref it, .int 0])), (it, .inl (cI, 6, .inl f)), (h1, .inr (0, [.ref jt, .int 0])), (jt, .inl (cI, 6, .inl g))])) (va_Qv (fun (_ : Unit) => True) (vx_C (dC, dI) (vx_T cI cC cZ) (va_A [(h0, .inr (0, [.ref it, .int 0])), (it, .inl (cI, 6, .inl f)), (h1, .inr (0, [.ref jt, .int 0])), (jt, .inl (cI, 6, .inl g))] sz) (fun (u : Unit) => [(h0, .inr (0, [.ref it, .int 0])), (it, .inl (cI, 6, .inl (va_cpy g f 0 0 0))), (h1, .inr (0, [.ref jt, .int 0])), (jt, .inl (cI, 6, .inl g))])) (va_A [(h0, .inr (0, [.ref it, .int 0])), (it, .inl (cI, 6, .inl f)), (h1, .inr (0, [.ref jt, .int 0])), (jt, .inl (cI, 6, .inl g))] sz)) 0 0 (va_A [(h0, .inr (0, [.ref it, .int 0])), (it, .inl (cI, 6, .inl f)), (h1, .inr (0, [.ref jt, .int 0])), (jt, .inl (cI, 6, .inl g))] sz) := by
  refine Met.ofW (cc := cX1_copyFrom) (maxL := 2) (ret := none) (by decide) rfl ?_
  intro p e s m args below meth c s₁ B hml hv
  obtain ⟨rfl, hsz, hP, hK, hD0⟩ := hv
  have hx := B.exec
  have hb := B.bytes
  have hr := B.returns
  have hts := atoms_spec (ws := wsX1_copyFrom) B.pre
  have hown : s.vm.findClass RX1 = some m.cls := findClass_of_methodNamed B.named
  have hlocks := B.notSynchronized
  subst hsz
  have hD := hD0.self (sz := s.heap.size)
  generalize hAe : va_A [(h0, .inr (0, [.ref it, .int 0])), (it, .inl (cI, 6, .inl f)), (h1, .inr (0, [.ref jt, .int 0])), (jt, .inl (cI, 6, .inl g))] s.heap.size = A at hD ⊢
  have hA : ∀ q : Nat, s.heap.size ≤ q → A q := fun q h => by rw [← hAe]; exact Or.inr h
  have hS : va_S A s.heap s.heap [] := va_S.rf
  have hl := lv_entry ([.ref h0, .ref h1]) (n := 2) (Nat.le_of_ble_eq_true rfl)
  rw [lg_entry_eq]
  generalize (lg_sl ([.ref h0, .ref h1]) ++ List.replicate (2 - (lg_sl ([.ref h0, .ref h1])).length) Slot.unset).toArray = ls at hl ⊢
  have hl : lv_has ls 2 [(0, .ref h0), (1, .ref h1)] := hl
  have iX1 : ∀ w ∈ u_ws RX1 TX1 2, w ∈ wsX1_copyFrom := by decide +kernel
  refine lv_aload_n hx hb dX1_copyFrom_0 rfl (lv_at hl 0 rfl) ?_
  refine lv_aload_n hx hb dX1_copyFrom_1 rfl (lv_at hl 1 rfl) ?_
  refine va_get (D := (dC, dI)) (ci := 0) (v := .int 0) (C := RX1) (T := TX1) (N := 2) hx hb hts iX1 hown hK hP 2 rfl rfl 1 (by decide) (hts (.fieldLink RX1 19 "NeighboursMark$Numbers" "size" "I") (by decide +kernel)) (fun _ h9 => h9) rfl dX1_copyFrom_2 ?_
  refine lv_aload_n hx hb dX1_copyFrom_5 rfl (lv_at hl 0 rfl) ?_
  refine va_get (D := (dC, dI)) (ci := 0) (v := .ref it) (C := RX1) (T := TX1) (N := 2) hx hb hts iX1 hown hK hP 0 rfl rfl 0 (by decide) (hts (.fieldLink RX1 13 "NeighboursMark$Numbers" "items" "[I") (by decide +kernel)) (fun _ h9 => h9) rfl dX1_copyFrom_6 ?_
  refine va_alen hx hb hK hP 1 0 rfl rfl (v := 6) rfl dX1_copyFrom_9 ?_
  refine va_mmin hx hb (by rw [hml]; exact hl.1.symm) hown (hts (.methodLink RX1 27 Lib.Math.min.name) (by decide +kernel)) (hts (.static Lib.Math.min.name) (by decide +kernel)) (hts (.initialized "java/lang/Math") (by decide +kernel)) (hts (.code Lib.Math.min.name Lib.Math.min.code 2 (some .int)) (by decide +kernel)) (Nat.le_of_ble_eq_true rfl) (Nat.le_of_ble_eq_true rfl) (Nat.le_of_ble_eq_true rfl) (Nat.le_of_ble_eq_true rfl) dX1_copyFrom_10 ?_
  refine lv_topi (fun x1 ex1 => ?_)
  have ex1 : 0 = x1 := (ex1.trans (by decide)).symm
  subst ex1
  refine va_put (D := (dC, dI)) (ci := 0) (v := .int 0) (ty := .int) (C := RX1) (T := TX1) (N := 2) hx hb hts iX1 tyX1 tyX1_ok nmX1 hown hK hP hD hS 0 rfl rfl 1 (by decide) (hts (.fieldLink RX1 19 "NeighboursMark$Numbers" "size" "I") (by decide +kernel)) (fun _ h9 => h9) rfl (by decide +kernel) rfl rfl (Nat.le_of_ble_eq_true rfl) dX1_copyFrom_13 (fun H locs hP hD hS => ?_)
  have hP : va_P (dC, dI) vwCl [(h0, .inr (0, [.ref it, .int 0])), (it, .inl (cI, 6, .inl f)), (h1, .inr (0, [.ref jt, .int 0])), (jt, .inl (cI, 6, .inl g))] H := hP
  have hD : va_D A [(h0, .inr (0, [.ref it, .int 0])), (it, .inl (cI, 6, .inl f)), (h1, .inr (0, [.ref jt, .int 0])), (jt, .inl (cI, 6, .inl g))] := hD
  refine lv_aload_n hx hb dX1_copyFrom_16 rfl (lv_at hl 1 rfl) ?_
  refine va_get (D := (dC, dI)) (ci := 0) (v := .ref jt) (C := RX1) (T := TX1) (N := 2) hx hb hts iX1 hown hK hP 2 rfl rfl 0 (by decide) (hts (.fieldLink RX1 13 "NeighboursMark$Numbers" "items" "[I") (by decide +kernel)) (fun _ h9 => h9) rfl dX1_copyFrom_17 ?_
  refine lv_iconst (v := 0) hx hb dX1_copyFrom_20 (by decide) ?_
  refine lv_aload_n hx hb dX1_copyFrom_21 rfl (lv_at hl 0 rfl) ?_
  refine va_get (D := (dC, dI)) (ci := 0) (v := .ref it) (C := RX1) (T := TX1) (N := 2) hx hb hts iX1 hown hK hP 0 rfl rfl 0 (by decide) (hts (.fieldLink RX1 13 "NeighboursMark$Numbers" "items" "[I") (by decide +kernel)) (fun _ h9 => h9) rfl dX1_copyFrom_22 ?_
  refine lv_iconst (v := 0) hx hb dX1_copyFrom_25 (by decide) ?_
  refine lv_aload_n hx hb dX1_copyFrom_26 rfl (lv_at hl 0 rfl) ?_
  refine va_get (D := (dC, dI)) (ci := 0) (v := .int 0) (C := RX1) (T := TX1) (N := 2) hx hb hts iX1 hown hK hP 0 rfl rfl 1 (by decide) (hts (.fieldLink RX1 19 "NeighboursMark$Numbers" "size" "I") (by decide +kernel)) (fun _ h9 => h9) rfl dX1_copyFrom_27 ?_
  refine va_copyi hx hb (by rw [hml]; exact hl.1.symm) hown (hts (.methodLink RX1 30 arraycopyName) (by decide +kernel)) (hts (.native arraycopyName) (by decide +kernel)) (hts (.static arraycopyName) (by decide +kernel)) (hts (.initialized "java/lang/System") (by decide +kernel)) hK hP hD hS 3 1 0 0 rfl rfl rfl rfl rfl (by decide) (by decide) (by decide) (by decide) (by decide) (fun _ _ => rfl) (Nat.le_of_ble_eq_true rfl) (Nat.le_of_ble_eq_true rfl) dX1_copyFrom_30 (fun H locs hP hD hS => ?_)
  have hP : va_P (dC, dI) vwCl [(h0, .inr (0, [.ref it, .int 0])), (it, .inl (cI, 6, .inl (va_cpy g f 0 0 0))), (h1, .inr (0, [.ref jt, .int 0])), (jt, .inl (cI, 6, .inl g))] H := hP
  have hD : va_D A [(h0, .inr (0, [.ref it, .int 0])), (it, .inl (cI, 6, .inl (va_cpy g f 0 0 0))), (h1, .inr (0, [.ref jt, .int 0])), (jt, .inl (cI, 6, .inl g))] := hD
  exact vx_vret (u := ()) hx hb hr hlocks hK hP hD hS [0, 1, 2, 3] rfl (by decide) trivial dX1_copyFrom_33
set_option maxHeartbeats 4000000 in
set_option maxRecDepth 100000 in
theorem c_refuse1 (l : Launch) (dC : Nat → ClassId) (dI : Nat → Nat → Nat) (cI cC cZ : ClassId) (sz : Nat) (h0 now mind lts told rdr sea way ref ksc kle kto : Nat) (im w : Int32) (f : Nat → Int32) (hf : f 1 = w) : Met l yX7_refuse wsX7_refuse ({ frames := 0, cells := 0, slots := 0, locals := 0 }) (va_Pc [.ref h0, .int (-1)] (vx_B (dC, dI) (vx_T cI cC cZ) sz [(h0, .inr (5, [.ref now, .ref mind, .ref lts, .ref told, .ref rdr, .ref sea, .ref way, .ref ref, .ref ksc, .ref kle, .ref kto, .int im])), (ref, .inl (cI, 7, .inl f))])) (va_Qi (fun (r : Int32) (_ : Unit) => r = (-1)) (vx_C (dC, dI) (vx_T cI cC cZ) (va_A [(h0, .inr (5, [.ref now, .ref mind, .ref lts, .ref told, .ref rdr, .ref sea, .ref way, .ref ref, .ref ksc, .ref kle, .ref kto, .int im])), (ref, .inl (cI, 7, .inl f))] sz) (fun (u : Unit) => [(h0, .inr (5, [.ref now, .ref mind, .ref lts, .ref told, .ref rdr, .ref sea, .ref way, .ref ref, .ref ksc, .ref kle, .ref kto, .int im])), (ref, .inl (cI, 7, .inl (upd f 1 (w + 1))))])) (va_A [(h0, .inr (5, [.ref now, .ref mind, .ref lts, .ref told, .ref rdr, .ref sea, .ref way, .ref ref, .ref ksc, .ref kle, .ref kto, .int im])), (ref, .inl (cI, 7, .inl f))] sz)) 0 0 (va_A [(h0, .inr (5, [.ref now, .ref mind, .ref lts, .ref told, .ref rdr, .ref sea, .ref way, .ref ref, .ref ksc, .ref kle, .ref kto, .int im])), (ref, .inl (cI, 7, .inl f))] sz) := by
  refine Met.ofW (cc := cX7_refuse) (maxL := 2) (ret := (some .int)) (by decide) rfl ?_
  intro p e s m args below meth c s₁ B hml hv
  obtain ⟨rfl, hsz, hP, hK, hD0⟩ := hv
  have hx := B.exec
  have hb := B.bytes
  have hr := B.returns
  have hts := atoms_spec (ws := wsX7_refuse) B.pre
  have hown : s.vm.findClass RX7 = some m.cls := findClass_of_methodNamed B.named
  have hlocks := B.notSynchronized
  subst hsz
  have hD := hD0.self (sz := s.heap.size)
  generalize hAe : va_A [(h0, .inr (5, [.ref now, .ref mind, .ref lts, .ref told, .ref rdr, .ref sea, .ref way, .ref ref, .ref ksc, .ref kle, .ref kto, .int im])), (ref, .inl (cI, 7, .inl f))] s.heap.size = A at hD ⊢
  have hA : ∀ q : Nat, s.heap.size ≤ q → A q := fun q h => by rw [← hAe]; exact Or.inr h
  have hS : va_S A s.heap s.heap [] := va_S.rf
  have hl := lv_entry ([.ref h0, .int (-1)]) (n := 2) (Nat.le_of_ble_eq_true rfl)
  rw [lg_entry_eq]
  generalize (lg_sl ([.ref h0, .int (-1)]) ++ List.replicate (2 - (lg_sl ([.ref h0, .int (-1)])).length) Slot.unset).toArray = ls at hl ⊢
  have hl : lv_has ls 2 [(0, .ref h0), (1, .int (-1))] := hl
  have iX7 : ∀ w ∈ u_ws RX7 TX7 12, w ∈ wsX7_refuse := by decide +kernel
  refine lv_iload_n hx hb dX7_refuse_0 rfl (lv_at hl 1 rfl) ?_
  refine lv_ineg hx hb dX7_refuse_1 ?_
  refine lv_topi (fun x1 ex1 => ?_)
  have ex1 : 1 = x1 := (ex1.trans (by decide)).symm
  subst ex1
  refine lv_if_lt (tgt := 26) hx hb dX7_refuse_2 (by decide) (fun c0 => absurd c0 (by decide)) (fun _ => ?_)
  refine lv_iload_n hx hb dX7_refuse_5 rfl (lv_at hl 1 rfl) ?_
  refine lv_ineg hx hb dX7_refuse_6 ?_
  refine lv_topi (fun x2 ex2 => ?_)
  have ex2 : 1 = x2 := (ex2.trans (by decide)).symm
  subst ex2
  refine lv_aload_n hx hb dX7_refuse_7 rfl (lv_at hl 0 rfl) ?_
  refine va_get (D := (dC, dI)) (ci := 5) (v := .ref ref) (C := RX7) (T := TX7) (N := 12) hx hb hts iX7 hown hK hP 0 rfl rfl 7 (by decide) (hts (.fieldLink RX7 52 "NeighboursMark" "refusals" "[I") (by decide +kernel)) (fun _ h9 => h9) rfl dX7_refuse_8 ?_
  refine va_alen hx hb hK hP 1 0 rfl rfl (v := 7) rfl dX7_refuse_11 ?_
  refine lv_icmp_ge (tgt := 26) hx hb dX7_refuse_12 (by decide) (fun c0 => absurd c0 (by decide)) (fun _ => ?_)
  refine lv_aload_n hx hb dX7_refuse_15 rfl (lv_at hl 0 rfl) ?_
  refine va_get (D := (dC, dI)) (ci := 5) (v := .ref ref) (C := RX7) (T := TX7) (N := 12) hx hb hts iX7 hown hK hP 0 rfl rfl 7 (by decide) (hts (.fieldLink RX7 52 "NeighboursMark" "refusals" "[I") (by decide +kernel)) (fun _ h9 => h9) rfl dX7_refuse_16 ?_
  refine lv_iload_n hx hb dX7_refuse_19 rfl (lv_at hl 1 rfl) ?_
  refine lv_ineg hx hb dX7_refuse_20 ?_
  refine lv_topi (fun x3 ex3 => ?_)
  have ex3 : 1 = x3 := (ex3.trans (by decide)).symm
  subst ex3
  refine lv_dup2_11 hx hb dX7_refuse_21 rfl rfl ?_
  refine va_iald hx hb hK hP 1 0 rfl rfl (by unfold vp_in; decide) dX7_refuse_22 ?_
  refine lv_topi (fun x4 ex4 => ?_)
  have ex4 : w = x4 := (ex4.trans hf).symm
  subst ex4
  refine lv_iconst (v := 1) hx hb dX7_refuse_23 (by decide) ?_
  refine lv_iadd hx hb dX7_refuse_24 ?_
  refine va_iast hx hb hK hP hD hS 1 0 rfl rfl (by unfold vp_in; decide) dX7_refuse_25 (fun H locs hP hD hS => ?_)
  have hP : va_P (dC, dI) vwCl [(h0, .inr (5, [.ref now, .ref mind, .ref lts, .ref told, .ref rdr, .ref sea, .ref way, .ref ref, .ref ksc, .ref kle, .ref kto, .int im])), (ref, .inl (cI, 7, .inl (upd f 1 (w + 1))))] H := hP
  have hD : va_D A [(h0, .inr (5, [.ref now, .ref mind, .ref lts, .ref told, .ref rdr, .ref sea, .ref way, .ref ref, .ref ksc, .ref kle, .ref kto, .int im])), (ref, .inl (cI, 7, .inl (upd f 1 (w + 1))))] := hD
  refine lv_iload_n hx hb dX7_refuse_26 rfl (lv_at hl 1 rfl) ?_
  exact vx_iret (u := ()) hx hb hr hlocks hK hP hD hS [0, 1] rfl (by decide) rfl dX7_refuse_27
set_option maxHeartbeats 4000000 in
set_option maxRecDepth 100000 in
theorem c_refuse2 (l : Launch) (dC : Nat → ClassId) (dI : Nat → Nat → Nat) (cI cC cZ : ClassId) (sz : Nat) (h0 now mind lts told rdr sea way ref ksc kle kto : Nat) (im w : Int32) (f : Nat → Int32) (hf : f 2 = w) : Met l yX7_refuse wsX7_refuse ({ frames := 0, cells := 0, slots := 0, locals := 0 }) (va_Pc [.ref h0, .int (-2)] (vx_B (dC, dI) (vx_T cI cC cZ) sz [(h0, .inr (5, [.ref now, .ref mind, .ref lts, .ref told, .ref rdr, .ref sea, .ref way, .ref ref, .ref ksc, .ref kle, .ref kto, .int im])), (ref, .inl (cI, 7, .inl f))])) (va_Qi (fun (r : Int32) (_ : Unit) => r = (-2)) (vx_C (dC, dI) (vx_T cI cC cZ) (va_A [(h0, .inr (5, [.ref now, .ref mind, .ref lts, .ref told, .ref rdr, .ref sea, .ref way, .ref ref, .ref ksc, .ref kle, .ref kto, .int im])), (ref, .inl (cI, 7, .inl f))] sz) (fun (u : Unit) => [(h0, .inr (5, [.ref now, .ref mind, .ref lts, .ref told, .ref rdr, .ref sea, .ref way, .ref ref, .ref ksc, .ref kle, .ref kto, .int im])), (ref, .inl (cI, 7, .inl (upd f 2 (w + 1))))])) (va_A [(h0, .inr (5, [.ref now, .ref mind, .ref lts, .ref told, .ref rdr, .ref sea, .ref way, .ref ref, .ref ksc, .ref kle, .ref kto, .int im])), (ref, .inl (cI, 7, .inl f))] sz)) 0 0 (va_A [(h0, .inr (5, [.ref now, .ref mind, .ref lts, .ref told, .ref rdr, .ref sea, .ref way, .ref ref, .ref ksc, .ref kle, .ref kto, .int im])), (ref, .inl (cI, 7, .inl f))] sz) := by
  refine Met.ofW (cc := cX7_refuse) (maxL := 2) (ret := (some .int)) (by decide) rfl ?_
  intro p e s m args below meth c s₁ B hml hv
  obtain ⟨rfl, hsz, hP, hK, hD0⟩ := hv
  have hx := B.exec
  have hb := B.bytes
  have hr := B.returns
  have hts := atoms_spec (ws := wsX7_refuse) B.pre
  have hown : s.vm.findClass RX7 = some m.cls := findClass_of_methodNamed B.named
  have hlocks := B.notSynchronized
  subst hsz
  have hD := hD0.self (sz := s.heap.size)
  generalize hAe : va_A [(h0, .inr (5, [.ref now, .ref mind, .ref lts, .ref told, .ref rdr, .ref sea, .ref way, .ref ref, .ref ksc, .ref kle, .ref kto, .int im])), (ref, .inl (cI, 7, .inl f))] s.heap.size = A at hD ⊢
  have hA : ∀ q : Nat, s.heap.size ≤ q → A q := fun q h => by rw [← hAe]; exact Or.inr h
  have hS : va_S A s.heap s.heap [] := va_S.rf
  have hl := lv_entry ([.ref h0, .int (-2)]) (n := 2) (Nat.le_of_ble_eq_true rfl)
  rw [lg_entry_eq]
  generalize (lg_sl ([.ref h0, .int (-2)]) ++ List.replicate (2 - (lg_sl ([.ref h0, .int (-2)])).length) Slot.unset).toArray = ls at hl ⊢
  have hl : lv_has ls 2 [(0, .ref h0), (1, .int (-2))] := hl
  have iX7 : ∀ w ∈ u_ws RX7 TX7 12, w ∈ wsX7_refuse := by decide +kernel
  refine lv_iload_n hx hb dX7_refuse_0 rfl (lv_at hl 1 rfl) ?_
  refine lv_ineg hx hb dX7_refuse_1 ?_
  refine lv_topi (fun x1 ex1 => ?_)
  have ex1 : 2 = x1 := (ex1.trans (by decide)).symm
  subst ex1
  refine lv_if_lt (tgt := 26) hx hb dX7_refuse_2 (by decide) (fun c0 => absurd c0 (by decide)) (fun _ => ?_)
  refine lv_iload_n hx hb dX7_refuse_5 rfl (lv_at hl 1 rfl) ?_
  refine lv_ineg hx hb dX7_refuse_6 ?_
  refine lv_topi (fun x2 ex2 => ?_)
  have ex2 : 2 = x2 := (ex2.trans (by decide)).symm
  subst ex2
  refine lv_aload_n hx hb dX7_refuse_7 rfl (lv_at hl 0 rfl) ?_
  refine va_get (D := (dC, dI)) (ci := 5) (v := .ref ref) (C := RX7) (T := TX7) (N := 12) hx hb hts iX7 hown hK hP 0 rfl rfl 7 (by decide) (hts (.fieldLink RX7 52 "NeighboursMark" "refusals" "[I") (by decide +kernel)) (fun _ h9 => h9) rfl dX7_refuse_8 ?_
  refine va_alen hx hb hK hP 1 0 rfl rfl (v := 7) rfl dX7_refuse_11 ?_
  refine lv_icmp_ge (tgt := 26) hx hb dX7_refuse_12 (by decide) (fun c0 => absurd c0 (by decide)) (fun _ => ?_)
  refine lv_aload_n hx hb dX7_refuse_15 rfl (lv_at hl 0 rfl) ?_
  refine va_get (D := (dC, dI)) (ci := 5) (v := .ref ref) (C := RX7) (T := TX7) (N := 12) hx hb hts iX7 hown hK hP 0 rfl rfl 7 (by decide) (hts (.fieldLink RX7 52 "NeighboursMark" "refusals" "[I") (by decide +kernel)) (fun _ h9 => h9) rfl dX7_refuse_16 ?_
  refine lv_iload_n hx hb dX7_refuse_19 rfl (lv_at hl 1 rfl) ?_
  refine lv_ineg hx hb dX7_refuse_20 ?_
  refine lv_topi (fun x3 ex3 => ?_)
  have ex3 : 2 = x3 := (ex3.trans (by decide)).symm
  subst ex3
  refine lv_dup2_11 hx hb dX7_refuse_21 rfl rfl ?_
  refine va_iald hx hb hK hP 1 0 rfl rfl (by unfold vp_in; decide) dX7_refuse_22 ?_
  refine lv_topi (fun x4 ex4 => ?_)
  have ex4 : w = x4 := (ex4.trans hf).symm
  subst ex4
  refine lv_iconst (v := 1) hx hb dX7_refuse_23 (by decide) ?_
  refine lv_iadd hx hb dX7_refuse_24 ?_
  refine va_iast hx hb hK hP hD hS 1 0 rfl rfl (by unfold vp_in; decide) dX7_refuse_25 (fun H locs hP hD hS => ?_)
  have hP : va_P (dC, dI) vwCl [(h0, .inr (5, [.ref now, .ref mind, .ref lts, .ref told, .ref rdr, .ref sea, .ref way, .ref ref, .ref ksc, .ref kle, .ref kto, .int im])), (ref, .inl (cI, 7, .inl (upd f 2 (w + 1))))] H := hP
  have hD : va_D A [(h0, .inr (5, [.ref now, .ref mind, .ref lts, .ref told, .ref rdr, .ref sea, .ref way, .ref ref, .ref ksc, .ref kle, .ref kto, .int im])), (ref, .inl (cI, 7, .inl (upd f 2 (w + 1))))] := hD
  refine lv_iload_n hx hb dX7_refuse_26 rfl (lv_at hl 1 rfl) ?_
  exact vx_iret (u := ()) hx hb hr hlocks hK hP hD hS [0, 1] rfl (by decide) rfl dX7_refuse_27
set_option maxHeartbeats 4000000 in
set_option maxRecDepth 100000 in
theorem c_refuse3 (l : Launch) (dC : Nat → ClassId) (dI : Nat → Nat → Nat) (cI cC cZ : ClassId) (sz : Nat) (h0 now mind lts told rdr sea way ref ksc kle kto : Nat) (im w : Int32) (f : Nat → Int32) (hf : f 3 = w) : Met l yX7_refuse wsX7_refuse ({ frames := 0, cells := 0, slots := 0, locals := 0 }) (va_Pc [.ref h0, .int (-3)] (vx_B (dC, dI) (vx_T cI cC cZ) sz [(h0, .inr (5, [.ref now, .ref mind, .ref lts, .ref told, .ref rdr, .ref sea, .ref way, .ref ref, .ref ksc, .ref kle, .ref kto, .int im])), (ref, .inl (cI, 7, .inl f))])) (va_Qi (fun (r : Int32) (_ : Unit) => r = (-3)) (vx_C (dC, dI) (vx_T cI cC cZ) (va_A [(h0, .inr (5, [.ref now, .ref mind, .ref lts, .ref told, .ref rdr, .ref sea, .ref way, .ref ref, .ref ksc, .ref kle, .ref kto, .int im])), (ref, .inl (cI, 7, .inl f))] sz) (fun (u : Unit) => [(h0, .inr (5, [.ref now, .ref mind, .ref lts, .ref told, .ref rdr, .ref sea, .ref way, .ref ref, .ref ksc, .ref kle, .ref kto, .int im])), (ref, .inl (cI, 7, .inl (upd f 3 (w + 1))))])) (va_A [(h0, .inr (5, [.ref now, .ref mind, .ref lts, .ref told, .ref rdr, .ref sea, .ref way, .ref ref, .ref ksc, .ref kle, .ref kto, .int im])), (ref, .inl (cI, 7, .inl f))] sz)) 0 0 (va_A [(h0, .inr (5, [.ref now, .ref mind, .ref lts, .ref told, .ref rdr, .ref sea, .ref way, .ref ref, .ref ksc, .ref kle, .ref kto, .int im])), (ref, .inl (cI, 7, .inl f))] sz) := by
  refine Met.ofW (cc := cX7_refuse) (maxL := 2) (ret := (some .int)) (by decide) rfl ?_
  intro p e s m args below meth c s₁ B hml hv
  obtain ⟨rfl, hsz, hP, hK, hD0⟩ := hv
  have hx := B.exec
  have hb := B.bytes
  have hr := B.returns
  have hts := atoms_spec (ws := wsX7_refuse) B.pre
  have hown : s.vm.findClass RX7 = some m.cls := findClass_of_methodNamed B.named
  have hlocks := B.notSynchronized
  subst hsz
  have hD := hD0.self (sz := s.heap.size)
  generalize hAe : va_A [(h0, .inr (5, [.ref now, .ref mind, .ref lts, .ref told, .ref rdr, .ref sea, .ref way, .ref ref, .ref ksc, .ref kle, .ref kto, .int im])), (ref, .inl (cI, 7, .inl f))] s.heap.size = A at hD ⊢
  have hA : ∀ q : Nat, s.heap.size ≤ q → A q := fun q h => by rw [← hAe]; exact Or.inr h
  have hS : va_S A s.heap s.heap [] := va_S.rf
  have hl := lv_entry ([.ref h0, .int (-3)]) (n := 2) (Nat.le_of_ble_eq_true rfl)
  rw [lg_entry_eq]
  generalize (lg_sl ([.ref h0, .int (-3)]) ++ List.replicate (2 - (lg_sl ([.ref h0, .int (-3)])).length) Slot.unset).toArray = ls at hl ⊢
  have hl : lv_has ls 2 [(0, .ref h0), (1, .int (-3))] := hl
  have iX7 : ∀ w ∈ u_ws RX7 TX7 12, w ∈ wsX7_refuse := by decide +kernel
  refine lv_iload_n hx hb dX7_refuse_0 rfl (lv_at hl 1 rfl) ?_
  refine lv_ineg hx hb dX7_refuse_1 ?_
  refine lv_topi (fun x1 ex1 => ?_)
  have ex1 : 3 = x1 := (ex1.trans (by decide)).symm
  subst ex1
  refine lv_if_lt (tgt := 26) hx hb dX7_refuse_2 (by decide) (fun c0 => absurd c0 (by decide)) (fun _ => ?_)
  refine lv_iload_n hx hb dX7_refuse_5 rfl (lv_at hl 1 rfl) ?_
  refine lv_ineg hx hb dX7_refuse_6 ?_
  refine lv_topi (fun x2 ex2 => ?_)
  have ex2 : 3 = x2 := (ex2.trans (by decide)).symm
  subst ex2
  refine lv_aload_n hx hb dX7_refuse_7 rfl (lv_at hl 0 rfl) ?_
  refine va_get (D := (dC, dI)) (ci := 5) (v := .ref ref) (C := RX7) (T := TX7) (N := 12) hx hb hts iX7 hown hK hP 0 rfl rfl 7 (by decide) (hts (.fieldLink RX7 52 "NeighboursMark" "refusals" "[I") (by decide +kernel)) (fun _ h9 => h9) rfl dX7_refuse_8 ?_
  refine va_alen hx hb hK hP 1 0 rfl rfl (v := 7) rfl dX7_refuse_11 ?_
  refine lv_icmp_ge (tgt := 26) hx hb dX7_refuse_12 (by decide) (fun c0 => absurd c0 (by decide)) (fun _ => ?_)
  refine lv_aload_n hx hb dX7_refuse_15 rfl (lv_at hl 0 rfl) ?_
  refine va_get (D := (dC, dI)) (ci := 5) (v := .ref ref) (C := RX7) (T := TX7) (N := 12) hx hb hts iX7 hown hK hP 0 rfl rfl 7 (by decide) (hts (.fieldLink RX7 52 "NeighboursMark" "refusals" "[I") (by decide +kernel)) (fun _ h9 => h9) rfl dX7_refuse_16 ?_
  refine lv_iload_n hx hb dX7_refuse_19 rfl (lv_at hl 1 rfl) ?_
  refine lv_ineg hx hb dX7_refuse_20 ?_
  refine lv_topi (fun x3 ex3 => ?_)
  have ex3 : 3 = x3 := (ex3.trans (by decide)).symm
  subst ex3
  refine lv_dup2_11 hx hb dX7_refuse_21 rfl rfl ?_
  refine va_iald hx hb hK hP 1 0 rfl rfl (by unfold vp_in; decide) dX7_refuse_22 ?_
  refine lv_topi (fun x4 ex4 => ?_)
  have ex4 : w = x4 := (ex4.trans hf).symm
  subst ex4
  refine lv_iconst (v := 1) hx hb dX7_refuse_23 (by decide) ?_
  refine lv_iadd hx hb dX7_refuse_24 ?_
  refine va_iast hx hb hK hP hD hS 1 0 rfl rfl (by unfold vp_in; decide) dX7_refuse_25 (fun H locs hP hD hS => ?_)
  have hP : va_P (dC, dI) vwCl [(h0, .inr (5, [.ref now, .ref mind, .ref lts, .ref told, .ref rdr, .ref sea, .ref way, .ref ref, .ref ksc, .ref kle, .ref kto, .int im])), (ref, .inl (cI, 7, .inl (upd f 3 (w + 1))))] H := hP
  have hD : va_D A [(h0, .inr (5, [.ref now, .ref mind, .ref lts, .ref told, .ref rdr, .ref sea, .ref way, .ref ref, .ref ksc, .ref kle, .ref kto, .int im])), (ref, .inl (cI, 7, .inl (upd f 3 (w + 1))))] := hD
  refine lv_iload_n hx hb dX7_refuse_26 rfl (lv_at hl 1 rfl) ?_
  exact vx_iret (u := ()) hx hb hr hlocks hK hP hD hS [0, 1] rfl (by decide) rfl dX7_refuse_27
set_option maxHeartbeats 4000000 in
set_option maxRecDepth 100000 in
theorem c_refuse4 (l : Launch) (dC : Nat → ClassId) (dI : Nat → Nat → Nat) (cI cC cZ : ClassId) (sz : Nat) (h0 now mind lts told rdr sea way ref ksc kle kto : Nat) (im w : Int32) (f : Nat → Int32) (hf : f 4 = w) : Met l yX7_refuse wsX7_refuse ({ frames := 0, cells := 0, slots := 0, locals := 0 }) (va_Pc [.ref h0, .int (-4)] (vx_B (dC, dI) (vx_T cI cC cZ) sz [(h0, .inr (5, [.ref now, .ref mind, .ref lts, .ref told, .ref rdr, .ref sea, .ref way, .ref ref, .ref ksc, .ref kle, .ref kto, .int im])), (ref, .inl (cI, 7, .inl f))])) (va_Qi (fun (r : Int32) (_ : Unit) => r = (-4)) (vx_C (dC, dI) (vx_T cI cC cZ) (va_A [(h0, .inr (5, [.ref now, .ref mind, .ref lts, .ref told, .ref rdr, .ref sea, .ref way, .ref ref, .ref ksc, .ref kle, .ref kto, .int im])), (ref, .inl (cI, 7, .inl f))] sz) (fun (u : Unit) => [(h0, .inr (5, [.ref now, .ref mind, .ref lts, .ref told, .ref rdr, .ref sea, .ref way, .ref ref, .ref ksc, .ref kle, .ref kto, .int im])), (ref, .inl (cI, 7, .inl (upd f 4 (w + 1))))])) (va_A [(h0, .inr (5, [.ref now, .ref mind, .ref lts, .ref told, .ref rdr, .ref sea, .ref way, .ref ref, .ref ksc, .ref kle, .ref kto, .int im])), (ref, .inl (cI, 7, .inl f))] sz)) 0 0 (va_A [(h0, .inr (5, [.ref now, .ref mind, .ref lts, .ref told, .ref rdr, .ref sea, .ref way, .ref ref, .ref ksc, .ref kle, .ref kto, .int im])), (ref, .inl (cI, 7, .inl f))] sz) := by
  refine Met.ofW (cc := cX7_refuse) (maxL := 2) (ret := (some .int)) (by decide) rfl ?_
  intro p e s m args below meth c s₁ B hml hv
  obtain ⟨rfl, hsz, hP, hK, hD0⟩ := hv
  have hx := B.exec
  have hb := B.bytes
  have hr := B.returns
  have hts := atoms_spec (ws := wsX7_refuse) B.pre
  have hown : s.vm.findClass RX7 = some m.cls := findClass_of_methodNamed B.named
  have hlocks := B.notSynchronized
  subst hsz
  have hD := hD0.self (sz := s.heap.size)
  generalize hAe : va_A [(h0, .inr (5, [.ref now, .ref mind, .ref lts, .ref told, .ref rdr, .ref sea, .ref way, .ref ref, .ref ksc, .ref kle, .ref kto, .int im])), (ref, .inl (cI, 7, .inl f))] s.heap.size = A at hD ⊢
  have hA : ∀ q : Nat, s.heap.size ≤ q → A q := fun q h => by rw [← hAe]; exact Or.inr h
  have hS : va_S A s.heap s.heap [] := va_S.rf
  have hl := lv_entry ([.ref h0, .int (-4)]) (n := 2) (Nat.le_of_ble_eq_true rfl)
  rw [lg_entry_eq]
  generalize (lg_sl ([.ref h0, .int (-4)]) ++ List.replicate (2 - (lg_sl ([.ref h0, .int (-4)])).length) Slot.unset).toArray = ls at hl ⊢
  have hl : lv_has ls 2 [(0, .ref h0), (1, .int (-4))] := hl
  have iX7 : ∀ w ∈ u_ws RX7 TX7 12, w ∈ wsX7_refuse := by decide +kernel
  refine lv_iload_n hx hb dX7_refuse_0 rfl (lv_at hl 1 rfl) ?_
  refine lv_ineg hx hb dX7_refuse_1 ?_
  refine lv_topi (fun x1 ex1 => ?_)
  have ex1 : 4 = x1 := (ex1.trans (by decide)).symm
  subst ex1
  refine lv_if_lt (tgt := 26) hx hb dX7_refuse_2 (by decide) (fun c0 => absurd c0 (by decide)) (fun _ => ?_)
  refine lv_iload_n hx hb dX7_refuse_5 rfl (lv_at hl 1 rfl) ?_
  refine lv_ineg hx hb dX7_refuse_6 ?_
  refine lv_topi (fun x2 ex2 => ?_)
  have ex2 : 4 = x2 := (ex2.trans (by decide)).symm
  subst ex2
  refine lv_aload_n hx hb dX7_refuse_7 rfl (lv_at hl 0 rfl) ?_
  refine va_get (D := (dC, dI)) (ci := 5) (v := .ref ref) (C := RX7) (T := TX7) (N := 12) hx hb hts iX7 hown hK hP 0 rfl rfl 7 (by decide) (hts (.fieldLink RX7 52 "NeighboursMark" "refusals" "[I") (by decide +kernel)) (fun _ h9 => h9) rfl dX7_refuse_8 ?_
  refine va_alen hx hb hK hP 1 0 rfl rfl (v := 7) rfl dX7_refuse_11 ?_
  refine lv_icmp_ge (tgt := 26) hx hb dX7_refuse_12 (by decide) (fun c0 => absurd c0 (by decide)) (fun _ => ?_)
  refine lv_aload_n hx hb dX7_refuse_15 rfl (lv_at hl 0 rfl) ?_
  refine va_get (D := (dC, dI)) (ci := 5) (v := .ref ref) (C := RX7) (T := TX7) (N := 12) hx hb hts iX7 hown hK hP 0 rfl rfl 7 (by decide) (hts (.fieldLink RX7 52 "NeighboursMark" "refusals" "[I") (by decide +kernel)) (fun _ h9 => h9) rfl dX7_refuse_16 ?_
  refine lv_iload_n hx hb dX7_refuse_19 rfl (lv_at hl 1 rfl) ?_
  refine lv_ineg hx hb dX7_refuse_20 ?_
  refine lv_topi (fun x3 ex3 => ?_)
  have ex3 : 4 = x3 := (ex3.trans (by decide)).symm
  subst ex3
  refine lv_dup2_11 hx hb dX7_refuse_21 rfl rfl ?_
  refine va_iald hx hb hK hP 1 0 rfl rfl (by unfold vp_in; decide) dX7_refuse_22 ?_
  refine lv_topi (fun x4 ex4 => ?_)
  have ex4 : w = x4 := (ex4.trans hf).symm
  subst ex4
  refine lv_iconst (v := 1) hx hb dX7_refuse_23 (by decide) ?_
  refine lv_iadd hx hb dX7_refuse_24 ?_
  refine va_iast hx hb hK hP hD hS 1 0 rfl rfl (by unfold vp_in; decide) dX7_refuse_25 (fun H locs hP hD hS => ?_)
  have hP : va_P (dC, dI) vwCl [(h0, .inr (5, [.ref now, .ref mind, .ref lts, .ref told, .ref rdr, .ref sea, .ref way, .ref ref, .ref ksc, .ref kle, .ref kto, .int im])), (ref, .inl (cI, 7, .inl (upd f 4 (w + 1))))] H := hP
  have hD : va_D A [(h0, .inr (5, [.ref now, .ref mind, .ref lts, .ref told, .ref rdr, .ref sea, .ref way, .ref ref, .ref ksc, .ref kle, .ref kto, .int im])), (ref, .inl (cI, 7, .inl (upd f 4 (w + 1))))] := hD
  refine lv_iload_n hx hb dX7_refuse_26 rfl (lv_at hl 1 rfl) ?_
  exact vx_iret (u := ()) hx hb hr hlocks hK hP hD hS [0, 1] rfl (by decide) rfl dX7_refuse_27
set_option maxHeartbeats 4000000 in
set_option maxRecDepth 100000 in
theorem c_refuse6 (l : Launch) (dC : Nat → ClassId) (dI : Nat → Nat → Nat) (cI cC cZ : ClassId) (sz : Nat) (h0 now mind lts told rdr sea way ref ksc kle kto : Nat) (im w : Int32) (f : Nat → Int32) (hf : f 6 = w) : Met l yX7_refuse wsX7_refuse ({ frames := 0, cells := 0, slots := 0, locals := 0 }) (va_Pc [.ref h0, .int (-6)] (vx_B (dC, dI) (vx_T cI cC cZ) sz [(h0, .inr (5, [.ref now, .ref mind, .ref lts, .ref told, .ref rdr, .ref sea, .ref way, .ref ref, .ref ksc, .ref kle, .ref kto, .int im])), (ref, .inl (cI, 7, .inl f))])) (va_Qi (fun (r : Int32) (_ : Unit) => r = (-6)) (vx_C (dC, dI) (vx_T cI cC cZ) (va_A [(h0, .inr (5, [.ref now, .ref mind, .ref lts, .ref told, .ref rdr, .ref sea, .ref way, .ref ref, .ref ksc, .ref kle, .ref kto, .int im])), (ref, .inl (cI, 7, .inl f))] sz) (fun (u : Unit) => [(h0, .inr (5, [.ref now, .ref mind, .ref lts, .ref told, .ref rdr, .ref sea, .ref way, .ref ref, .ref ksc, .ref kle, .ref kto, .int im])), (ref, .inl (cI, 7, .inl (upd f 6 (w + 1))))])) (va_A [(h0, .inr (5, [.ref now, .ref mind, .ref lts, .ref told, .ref rdr, .ref sea, .ref way, .ref ref, .ref ksc, .ref kle, .ref kto, .int im])), (ref, .inl (cI, 7, .inl f))] sz)) 0 0 (va_A [(h0, .inr (5, [.ref now, .ref mind, .ref lts, .ref told, .ref rdr, .ref sea, .ref way, .ref ref, .ref ksc, .ref kle, .ref kto, .int im])), (ref, .inl (cI, 7, .inl f))] sz) := by
  refine Met.ofW (cc := cX7_refuse) (maxL := 2) (ret := (some .int)) (by decide) rfl ?_
  intro p e s m args below meth c s₁ B hml hv
  obtain ⟨rfl, hsz, hP, hK, hD0⟩ := hv
  have hx := B.exec
  have hb := B.bytes
  have hr := B.returns
  have hts := atoms_spec (ws := wsX7_refuse) B.pre
  have hown : s.vm.findClass RX7 = some m.cls := findClass_of_methodNamed B.named
  have hlocks := B.notSynchronized
  subst hsz
  have hD := hD0.self (sz := s.heap.size)
  generalize hAe : va_A [(h0, .inr (5, [.ref now, .ref mind, .ref lts, .ref told, .ref rdr, .ref sea, .ref way, .ref ref, .ref ksc, .ref kle, .ref kto, .int im])), (ref, .inl (cI, 7, .inl f))] s.heap.size = A at hD ⊢
  have hA : ∀ q : Nat, s.heap.size ≤ q → A q := fun q h => by rw [← hAe]; exact Or.inr h
  have hS : va_S A s.heap s.heap [] := va_S.rf
  have hl := lv_entry ([.ref h0, .int (-6)]) (n := 2) (Nat.le_of_ble_eq_true rfl)
  rw [lg_entry_eq]
  generalize (lg_sl ([.ref h0, .int (-6)]) ++ List.replicate (2 - (lg_sl ([.ref h0, .int (-6)])).length) Slot.unset).toArray = ls at hl ⊢
  have hl : lv_has ls 2 [(0, .ref h0), (1, .int (-6))] := hl
  have iX7 : ∀ w ∈ u_ws RX7 TX7 12, w ∈ wsX7_refuse := by decide +kernel
  refine lv_iload_n hx hb dX7_refuse_0 rfl (lv_at hl 1 rfl) ?_
  refine lv_ineg hx hb dX7_refuse_1 ?_
  refine lv_topi (fun x1 ex1 => ?_)
  have ex1 : 6 = x1 := (ex1.trans (by decide)).symm
  subst ex1
  refine lv_if_lt (tgt := 26) hx hb dX7_refuse_2 (by decide) (fun c0 => absurd c0 (by decide)) (fun _ => ?_)
  refine lv_iload_n hx hb dX7_refuse_5 rfl (lv_at hl 1 rfl) ?_
  refine lv_ineg hx hb dX7_refuse_6 ?_
  refine lv_topi (fun x2 ex2 => ?_)
  have ex2 : 6 = x2 := (ex2.trans (by decide)).symm
  subst ex2
  refine lv_aload_n hx hb dX7_refuse_7 rfl (lv_at hl 0 rfl) ?_
  refine va_get (D := (dC, dI)) (ci := 5) (v := .ref ref) (C := RX7) (T := TX7) (N := 12) hx hb hts iX7 hown hK hP 0 rfl rfl 7 (by decide) (hts (.fieldLink RX7 52 "NeighboursMark" "refusals" "[I") (by decide +kernel)) (fun _ h9 => h9) rfl dX7_refuse_8 ?_
  refine va_alen hx hb hK hP 1 0 rfl rfl (v := 7) rfl dX7_refuse_11 ?_
  refine lv_icmp_ge (tgt := 26) hx hb dX7_refuse_12 (by decide) (fun c0 => absurd c0 (by decide)) (fun _ => ?_)
  refine lv_aload_n hx hb dX7_refuse_15 rfl (lv_at hl 0 rfl) ?_
  refine va_get (D := (dC, dI)) (ci := 5) (v := .ref ref) (C := RX7) (T := TX7) (N := 12) hx hb hts iX7 hown hK hP 0 rfl rfl 7 (by decide) (hts (.fieldLink RX7 52 "NeighboursMark" "refusals" "[I") (by decide +kernel)) (fun _ h9 => h9) rfl dX7_refuse_16 ?_
  refine lv_iload_n hx hb dX7_refuse_19 rfl (lv_at hl 1 rfl) ?_
  refine lv_ineg hx hb dX7_refuse_20 ?_
  refine lv_topi (fun x3 ex3 => ?_)
  have ex3 : 6 = x3 := (ex3.trans (by decide)).symm
  subst ex3
  refine lv_dup2_11 hx hb dX7_refuse_21 rfl rfl ?_
  refine va_iald hx hb hK hP 1 0 rfl rfl (by unfold vp_in; decide) dX7_refuse_22 ?_
  refine lv_topi (fun x4 ex4 => ?_)
  have ex4 : w = x4 := (ex4.trans hf).symm
  subst ex4
  refine lv_iconst (v := 1) hx hb dX7_refuse_23 (by decide) ?_
  refine lv_iadd hx hb dX7_refuse_24 ?_
  refine va_iast hx hb hK hP hD hS 1 0 rfl rfl (by unfold vp_in; decide) dX7_refuse_25 (fun H locs hP hD hS => ?_)
  have hP : va_P (dC, dI) vwCl [(h0, .inr (5, [.ref now, .ref mind, .ref lts, .ref told, .ref rdr, .ref sea, .ref way, .ref ref, .ref ksc, .ref kle, .ref kto, .int im])), (ref, .inl (cI, 7, .inl (upd f 6 (w + 1))))] H := hP
  have hD : va_D A [(h0, .inr (5, [.ref now, .ref mind, .ref lts, .ref told, .ref rdr, .ref sea, .ref way, .ref ref, .ref ksc, .ref kle, .ref kto, .int im])), (ref, .inl (cI, 7, .inl (upd f 6 (w + 1))))] := hD
  refine lv_iload_n hx hb dX7_refuse_26 rfl (lv_at hl 1 rfl) ?_
  exact vx_iret (u := ()) hx hb hr hlocks hK hP hD hS [0, 1] rfl (by decide) rfl dX7_refuse_27
