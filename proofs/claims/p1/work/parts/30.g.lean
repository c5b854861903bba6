theorem zz_c_isLaw_0 (v : Int32) (h0 : v < (0 : Int32)) : v < (0 : Int32) ∨ (6 : Int32) < v := by
  have e0 : (0 : Int32).toInt = 0 := by decide
  have e1 : (6 : Int32).toInt = 6 := by decide
  try simp only [Int32.lt_iff_toInt_lt, Int32.le_iff_toInt_le, ← Int32.toInt_inj, e0, e1] at h0
  simp only [Int32.lt_iff_toInt_lt, Int32.le_iff_toInt_le, ← Int32.toInt_inj, e0, e1]
  omega
theorem zz_c_isLaw_1 (v : Int32) (h0 : ¬ v < (0 : Int32)) (h1 : (6 : Int32) < v) : v < (0 : Int32) ∨ (6 : Int32) < v := by
  have e0 : (0 : Int32).toInt = 0 := by decide
  have e1 : (6 : Int32).toInt = 6 := by decide
  try simp only [Int32.lt_iff_toInt_lt, Int32.le_iff_toInt_le, ← Int32.toInt_inj, e0, e1] at h0
  try simp only [Int32.lt_iff_toInt_lt, Int32.le_iff_toInt_le, ← Int32.toInt_inj, e0, e1] at h1
  simp only [Int32.lt_iff_toInt_lt, Int32.le_iff_toInt_le, ← Int32.toInt_inj, e0, e1]
  omega
set_option maxHeartbeats 4000000 in
set_option maxRecDepth 100000 in
theorem c_isLaw (l : Launch) (dC : Nat → ClassId) (dI : Nat → Nat → Nat) (cI cC cZ : ClassId) (sz : Nat) (v : Int32) : Met l yX7_isLaw wsX7_isLaw ({ frames := 0, cells := 0, slots := 0, locals := 0 }) (va_Pc [.int v] (vx_B (dC, dI) (vx_T cI cC cZ) sz [])) (va_Qi (fun (r : Int32) (_ : Unit) => (r = 1 ∧ ¬ v < (0 : Int32) ∧ ¬ (6 : Int32) < v) ∨ (r = 0 ∧ (v < (0 : Int32) ∨ (6 : Int32) < v))) (vx_C (dC, dI) (vx_T cI cC cZ) (va_A [] sz) (fun (u : Unit) => [])) (va_A [] sz)) 0 0 (va_A [] sz) := by
  refine Met.ofW (cc := cX7_isLaw) (maxL := 1) (ret := (some .boolean)) (by decide) rfl ?_
  intro p e s m args below meth c s₁ B hml hv
  obtain ⟨rfl, hsz, hP, hK, hD0⟩ := hv
  have hx := B.exec
  have hb := B.bytes
  have hr := B.returns
  have hts := atoms_spec (ws := wsX7_isLaw) B.pre
  have hown : s.vm.findClass RX7 = some m.cls := findClass_of_methodNamed B.named
  have hlocks := B.notSynchronized
  subst hsz
  have hD := hD0.self (sz := s.heap.size)
  generalize hAe : va_A [] s.heap.size = A at hD ⊢
  have hA : ∀ q : Nat, s.heap.size ≤ q → A q := fun q h => by rw [← hAe]; exact Or.inr h
  have hS : va_S A s.heap s.heap [] := va_S.rf
  have hl := lv_entry ([.int v]) (n := 1) (Nat.le_of_ble_eq_true rfl)
  rw [lg_entry_eq]
  generalize (lg_sl ([.int v]) ++ List.replicate (1 - (lg_sl ([.int v])).length) Slot.unset).toArray = ls at hl ⊢
  have hl : lv_has ls 1 [(0, .int v)] := hl
  refine lv_iload_n hx hb dX7_isLaw_0 rfl (lv_at hl 0 rfl) ?_
  refine lv_if_lt (tgt := 14) hx hb dX7_isLaw_1 (by decide) (fun c1 => ?_) (fun c1 => ?_)
  · skip
    refine lv_iconst (v := 0) hx hb dX7_isLaw_14 (by decide) ?_
    exact vx_zret (u := ()) hx hb hr rfl hlocks hK hP hD hS [] rfl (by decide) (Or.inr (⟨rfl, (zz_c_isLaw_0 v c1)⟩)) dX7_isLaw_15
  · skip
    refine lv_iload_n hx hb dX7_isLaw_4 rfl (lv_at hl 0 rfl) ?_
    refine lv_bipush (v := 6) hx hb dX7_isLaw_5 (by decide) ?_
    refine lv_icmp_gt (tgt := 14) hx hb dX7_isLaw_7 (by decide) (fun c2 => ?_) (fun c2 => ?_)
    · skip
      refine lv_iconst (v := 0) hx hb dX7_isLaw_14 (by decide) ?_
      exact vx_zret (u := ()) hx hb hr rfl hlocks hK hP hD hS [] rfl (by decide) (Or.inr (⟨rfl, (zz_c_isLaw_1 v c1 c2)⟩)) dX7_isLaw_15
    · skip
      refine lv_iconst (v := 1) hx hb dX7_isLaw_10 (by decide) ?_
      refine lv_goto (tgt := 15) hx hb dX7_isLaw_11 (by decide) ?_
      exact vx_zret (u := ()) hx hb hr rfl hlocks hK hP hD hS [] rfl (by decide) (Or.inl ⟨rfl, c1, c2⟩) dX7_isLaw_15
theorem zz_t_letter_0 (a : Int32) (h0 : (0 : Int32) ≤ a) (h1 : (255 : Int32) < a) : ((-6) : Int32) = f_letter a := by
  have e0 : ((-6) : Int32).toInt = -6 := by decide
  have e1 : ((-4) : Int32).toInt = -4 := by decide
  have e2 : (0 : Int32).toInt = 0 := by decide
  have e3 : (1 : Int32).toInt = 1 := by decide
  have e4 : (32 : Int32).toInt = 32 := by decide
  have e5 : (255 : Int32).toInt = 255 := by decide
  unfold f_letter
  (repeat' split) <;> first | rfl | (exfalso; simp only [Int32.lt_iff_toInt_lt, Int32.le_iff_toInt_le, ← Int32.toInt_inj, e0, e1, e2, e3, e4, e5] at * <;> omega)
theorem zz_t_letter_1 (a : Int32) (h0 : (0 : Int32) ≤ a) (h1 : ¬ (255 : Int32) < a) : (1 : Int32) = f_letter a := by
  have e0 : ((-6) : Int32).toInt = -6 := by decide
  have e1 : ((-4) : Int32).toInt = -4 := by decide
  have e2 : (0 : Int32).toInt = 0 := by decide
  have e3 : (1 : Int32).toInt = 1 := by decide
  have e4 : (32 : Int32).toInt = 32 := by decide
  have e5 : (255 : Int32).toInt = 255 := by decide
  unfold f_letter
  (repeat' split) <;> first | rfl | (exfalso; simp only [Int32.lt_iff_toInt_lt, Int32.le_iff_toInt_le, ← Int32.toInt_inj, e0, e1, e2, e3, e4, e5] at * <;> omega)
theorem zz_t_letter_2 (a : Int32) (h0 : ¬ (0 : Int32) ≤ a) : ((-4) : Int32) = f_letter a := by
  have e0 : ((-6) : Int32).toInt = -6 := by decide
  have e1 : ((-4) : Int32).toInt = -4 := by decide
  have e2 : (0 : Int32).toInt = 0 := by decide
  have e3 : (1 : Int32).toInt = 1 := by decide
  have e4 : (32 : Int32).toInt = 32 := by decide
  have e5 : (255 : Int32).toInt = 255 := by decide
  unfold f_letter
  (repeat' split) <;> first | rfl | (exfalso; simp only [Int32.lt_iff_toInt_lt, Int32.le_iff_toInt_le, ← Int32.toInt_inj, e0, e1, e2, e3, e4, e5] at * <;> omega)
set_option maxHeartbeats 4000000 in
set_option maxRecDepth 100000 in
theorem t_letter (l : Launch) (dC : Nat → ClassId) (dI : Nat → Nat → Nat) (cI cC cZ : ClassId) (sz : Nat) (h0 now mind lts told rdr sea way ref ksc kle kto li : Nat) (a : Int32) : Met l yX7_letter wsX7_letter ({ frames := 2, cells := 0, slots := 0, locals := 41 }) (va_Pc [.ref h0, .int a] (vx_B (dC, dI) (vx_T cI cC cZ) sz [(h0, .inr (5, [.ref now, .ref mind, .ref lts, .ref told, .ref rdr, .ref sea, .ref way, .ref ref, .ref ksc, .ref kle, .ref kto, .int 0])), (ref, .inl (cI, 7, .inl (fun _ => 0))), (lts, .inr (0, [.ref li, .int 0])), (li, .inl (cI, 64, .inl (fun _ => 0)))])) (va_Qi (fun (r : Int32) (_ : Unit) => r = f_letter a) (vx_C (dC, dI) (vx_T cI cC cZ) (va_A [(h0, .inr (5, [.ref now, .ref mind, .ref lts, .ref told, .ref rdr, .ref sea, .ref way, .ref ref, .ref ksc, .ref kle, .ref kto, .int 0])), (ref, .inl (cI, 7, .inl (fun _ => 0))), (lts, .inr (0, [.ref li, .int 0])), (li, .inl (cI, 64, .inl (fun _ => 0)))] sz) (fun (u : Unit) => [])) (va_A [(h0, .inr (5, [.ref now, .ref mind, .ref lts, .ref told, .ref rdr, .ref sea, .ref way, .ref ref, .ref ksc, .ref kle, .ref kto, .int 0])), (ref, .inl (cI, 7, .inl (fun _ => 0))), (lts, .inr (0, [.ref li, .int 0])), (li, .inl (cI, 64, .inl (fun _ => 0)))] sz)) 0 0 (va_A [(h0, .inr (5, [.ref now, .ref mind, .ref lts, .ref told, .ref rdr, .ref sea, .ref way, .ref ref, .ref ksc, .ref kle, .ref kto, .int 0])), (ref, .inl (cI, 7, .inl (fun _ => 0))), (lts, .inr (0, [.ref li, .int 0])), (li, .inl (cI, 64, .inl (fun _ => 0)))] sz) := by
  refine Met.ofW (cc := cX7_letter) (maxL := 2) (ret := (some .int)) (by decide) rfl ?_
  intro p e s m args below meth c s₁ B hml hv
  obtain ⟨rfl, hsz, hP, hK, hD0⟩ := hv
  have hx := B.exec
  have hb := B.bytes
  have hr := B.returns
  have hts := atoms_spec (ws := wsX7_letter) B.pre
  have hown : s.vm.findClass RX7 = some m.cls := findClass_of_methodNamed B.named
  have hlocks := B.notSynchronized
  subst hsz
  have hD := hD0.self (sz := s.heap.size)
  generalize hAe : va_A [(h0, .inr (5, [.ref now, .ref mind, .ref lts, .ref told, .ref rdr, .ref sea, .ref way, .ref ref, .ref ksc, .ref kle, .ref kto, .int 0])), (ref, .inl (cI, 7, .inl (fun _ => 0))), (lts, .inr (0, [.ref li, .int 0])), (li, .inl (cI, 64, .inl (fun _ => 0)))] s.heap.size = A at hD ⊢
  have hA : ∀ q : Nat, s.heap.size ≤ q → A q := fun q h => by rw [← hAe]; exact Or.inr h
  have hS : va_S A s.heap s.heap [] := va_S.rf
  have hl := lv_entry ([.ref h0, .int a]) (n := 2) (Nat.le_of_ble_eq_true rfl)
  rw [lg_entry_eq]
  generalize (lg_sl ([.ref h0, .int a]) ++ List.replicate (2 - (lg_sl ([.ref h0, .int a])).length) Slot.unset).toArray = ls at hl ⊢
  have hl : lv_has ls 2 [(0, .ref h0), (1, .int a)] := hl
  have iX1 : ∀ w ∈ u_ws RX1 TX1 2, w ∈ wsX7_letter := by decide +kernel
  have iX7 : ∀ w ∈ u_ws RX7 TX7 12, w ∈ wsX7_letter := by decide +kernel
  refine lv_iload_n hx hb dX7_letter_0 rfl (lv_at hl 1 rfl) ?_
  refine lv_if_ge (tgt := 11) hx hb dX7_letter_1 (by decide) (fun c1 => ?_) (fun c1 => ?_)
  · skip
    refine lv_iload_n hx hb dX7_letter_11 rfl (lv_at hl 1 rfl) ?_
    refine lv_sipush (v := 255) hx hb dX7_letter_12 (by decide) ?_
    refine lv_icmp_gt (tgt := 28) hx hb dX7_letter_15 (by decide) (fun c2 => ?_) (fun c2 => ?_)
    · skip
      refine lv_aload_n hx hb dX7_letter_28 rfl (lv_at hl 0 rfl) ?_
      refine lv_bipush (v := (-6)) hx hb dX7_letter_29 (by decide) ?_
      have hPc := hP.sub (ws' := [(h0, .inr (5, [.ref now, .ref mind, .ref lts, .ref told, .ref rdr, .ref sea, .ref way, .ref ref, .ref ksc, .ref kle, .ref kto, .int 0])), (ref, .inl (cI, 7, .inl (fun _ => 0)))]) [0, 1] rfl
      have hDc := hD.sub (ws' := [(h0, .inr (5, [.ref now, .ref mind, .ref lts, .ref told, .ref rdr, .ref sea, .ref way, .ref ref, .ref ksc, .ref kle, .ref kto, .int 0])), (ref, .inl (cI, 7, .inl (fun _ => 0)))]) [0, 1] (by decide) rfl
      refine vx_calli (wc := [(h0, .inr (5, [.ref now, .ref mind, .ref lts, .ref told, .ref rdr, .ref sea, .ref way, .ref ref, .ref ksc, .ref kle, .ref kto, .int 0])), (ref, .inl (cI, 7, .inl (fun _ => 0)))]) (wr := [(lts, .inr (0, [.ref li, .int 0])), (li, .inl (cI, 64, .inl (fun _ => 0)))]) hP hD hS hA [0, 1] [2, 3] rfl rfl (by decide) (by decide) (va_runV (As := [.int (-6)]) (rest := []) ⟨hx, hb, hml, hown, hts⟩ (c_refuse6 l dC dI cI cC cZ _ h0 now mind lts told rdr sea way ref ksc kle kto 0 0 (fun _ => 0) rfl) (cwV 1 hts gX7_letter_X7_refuse rfl rfl rfl (by decide +kernel) ⟨Nat.le_of_ble_eq_true rfl, Nat.le_of_ble_eq_true rfl⟩) ⟨vx_blind, va_recv hK hPc (ci := 5) (q0 := 0) rfl rfl, vx_pre hK hPc hDc⟩ rfl rfl hl.1 rfl (lv_room (Nat.le_of_ble_eq_true rfl)) dX7_letter_31 ⟨Nat.le_of_ble_eq_true rfl, Nat.le_of_ble_eq_true rfl⟩) (fun r4 u3 H locs hw5 hP hD hS => ?_)
      have hP : va_P (dC, dI) vwCl [(lts, .inr (0, [.ref li, .int 0])), (li, .inl (cI, 64, .inl (fun _ => 0))), (h0, .inr (5, [.ref now, .ref mind, .ref lts, .ref told, .ref rdr, .ref sea, .ref way, .ref ref, .ref ksc, .ref kle, .ref kto, .int 0])), (ref, .inl (cI, 7, .inl (upd (fun _ => 0) 6 1)))] H := hP
      have hD : va_D A [(lts, .inr (0, [.ref li, .int 0])), (li, .inl (cI, 64, .inl (fun _ => 0))), (h0, .inr (5, [.ref now, .ref mind, .ref lts, .ref told, .ref rdr, .ref sea, .ref way, .ref ref, .ref ksc, .ref kle, .ref kto, .int 0])), (ref, .inl (cI, 7, .inl (upd (fun _ => 0) 6 1)))] := hD
      have er4 : (-6) = r4 := Eq.symm hw5
      subst er4
      exact vx_iret (u := ()) hx hb hr hlocks hK hP hD hS [] rfl (by decide) (zz_t_letter_0 a c1 c2) dX7_letter_34
    · skip
      refine lv_aload_n hx hb dX7_letter_18 rfl (lv_at hl 0 rfl) ?_
      refine va_get (D := (dC, dI)) (ci := 5) (v := .ref lts) (C := RX7) (T := TX7) (N := 12) hx hb hts iX7 hown hK hP 0 rfl rfl 2 (by decide) (hts (.fieldLink RX7 24 "NeighboursMark" "letters" "LNeighboursMark$Numbers;") (by decide +kernel)) (fun _ h9 => h9) rfl dX7_letter_19 ?_
      have hPc := hP.sub (ws' := [(lts, .inr (0, [.ref li, .int 0])), (li, .inl (cI, 64, .inl (fun _ => 0)))]) [2, 3] rfl
      have hDc := hD.sub (ws' := [(lts, .inr (0, [.ref li, .int 0])), (li, .inl (cI, 64, .inl (fun _ => 0)))]) [2, 3] (by decide) rfl
      refine vx_calli (wc := [(lts, .inr (0, [.ref li, .int 0])), (li, .inl (cI, 64, .inl (fun _ => 0)))]) (wr := [(h0, .inr (5, [.ref now, .ref mind, .ref lts, .ref told, .ref rdr, .ref sea, .ref way, .ref ref, .ref ksc, .ref kle, .ref kto, .int 0])), (ref, .inl (cI, 7, .inl (fun _ => 0)))]) hP hD hS hA [2, 3] [0, 1] rfl rfl (by decide) (by decide) (va_runV (As := []) (rest := []) ⟨hx, hb, hml, hown, hts⟩ (c_isFull64 l dC dI cI cC cZ _ lts li (fun _ => 0)) (cwV 0 hts gX7_letter_X1_isFull rfl rfl rfl (by decide +kernel) ⟨Nat.le_of_ble_eq_true rfl, Nat.le_of_ble_eq_true rfl⟩) ⟨vx_blind, va_recv hK hPc (ci := 0) (q0 := 0) rfl rfl, vx_pre hK hPc hDc⟩ rfl rfl hl.1 rfl (lv_room (Nat.le_of_ble_eq_true rfl)) dX7_letter_22 ⟨Nat.le_of_ble_eq_true rfl, Nat.le_of_ble_eq_true rfl⟩) (fun r7 u6 H locs hw8 hP hD hS => ?_)
      have hP : va_P (dC, dI) vwCl [(h0, .inr (5, [.ref now, .ref mind, .ref lts, .ref told, .ref rdr, .ref sea, .ref way, .ref ref, .ref ksc, .ref kle, .ref kto, .int 0])), (ref, .inl (cI, 7, .inl (fun _ => 0))), (lts, .inr (0, [.ref li, .int 0])), (li, .inl (cI, 64, .inl (fun _ => 0)))] H := hP
      have hD : va_D A [(h0, .inr (5, [.ref now, .ref mind, .ref lts, .ref told, .ref rdr, .ref sea, .ref way, .ref ref, .ref ksc, .ref kle, .ref kto, .int 0])), (ref, .inl (cI, 7, .inl (fun _ => 0))), (lts, .inr (0, [.ref li, .int 0])), (li, .inl (cI, 64, .inl (fun _ => 0)))] := hD
      have er7 : 0 = r7 := Eq.symm hw8
      subst er7
      refine lv_if_eq (tgt := 35) hx hb dX7_letter_25 (by decide) (fun _ => ?_) (fun c0 => absurd (by decide) c0)
      refine lv_aload_n hx hb dX7_letter_35 rfl (lv_at hl 0 rfl) ?_
      refine va_get (D := (dC, dI)) (ci := 5) (v := .ref lts) (C := RX7) (T := TX7) (N := 12) hx hb hts iX7 hown hK hP 0 rfl rfl 2 (by decide) (hts (.fieldLink RX7 24 "NeighboursMark" "letters" "LNeighboursMark$Numbers;") (by decide +kernel)) (fun _ h9 => h9) rfl dX7_letter_36 ?_
      refine lv_iload_n hx hb dX7_letter_39 rfl (lv_at hl 1 rfl) ?_
      have hPc := hP.sub (ws' := [(lts, .inr (0, [.ref li, .int 0])), (li, .inl (cI, 64, .inl (fun _ => 0)))]) [2, 3] rfl
      have hDc := hD.sub (ws' := [(lts, .inr (0, [.ref li, .int 0])), (li, .inl (cI, 64, .inl (fun _ => 0)))]) [2, 3] (by decide) rfl
      refine vx_callv (wc := [(lts, .inr (0, [.ref li, .int 0])), (li, .inl (cI, 64, .inl (fun _ => 0)))]) (wr := [(h0, .inr (5, [.ref now, .ref mind, .ref lts, .ref told, .ref rdr, .ref sea, .ref way, .ref ref, .ref ksc, .ref kle, .ref kto, .int 0])), (ref, .inl (cI, 7, .inl (fun _ => 0)))]) hP hD hS hA [2, 3] [0, 1] rfl rfl (by decide) (by decide) (va_runV (As := [.int a]) (rest := []) ⟨hx, hb, hml, hown, hts⟩ (c_add64 l dC dI cI cC cZ _ lts li a (fun _ => 0)) (cwV 1 hts gX7_letter_X1_add rfl rfl rfl (by decide +kernel) ⟨Nat.le_of_ble_eq_true rfl, Nat.le_of_ble_eq_true rfl⟩) ⟨vx_blind, va_recv hK hPc (ci := 0) (q0 := 0) rfl rfl, vx_pre hK hPc hDc⟩ rfl rfl hl.1 rfl (lv_room (Nat.le_of_ble_eq_true rfl)) dX7_letter_40 ⟨Nat.le_of_ble_eq_true rfl, Nat.le_of_ble_eq_true rfl⟩) (fun u9 H locs hw11 hP hD hS => ?_)
      have hP : va_P (dC, dI) vwCl [(h0, .inr (5, [.ref now, .ref mind, .ref lts, .ref told, .ref rdr, .ref sea, .ref way, .ref ref, .ref ksc, .ref kle, .ref kto, .int 0])), (ref, .inl (cI, 7, .inl (fun _ => 0))), (lts, .inr (0, [.ref li, .int 1])), (li, .inl (cI, 64, .inl (upd (fun _ => 0) 0 a)))] H := hP
      have hD : va_D A [(h0, .inr (5, [.ref now, .ref mind, .ref lts, .ref told, .ref rdr, .ref sea, .ref way, .ref ref, .ref ksc, .ref kle, .ref kto, .int 0])), (ref, .inl (cI, 7, .inl (fun _ => 0))), (lts, .inr (0, [.ref li, .int 1])), (li, .inl (cI, 64, .inl (upd (fun _ => 0) 0 a)))] := hD
      refine lv_aload_n hx hb dX7_letter_43 rfl (lv_at hl 0 rfl) ?_
      refine va_get (D := (dC, dI)) (ci := 5) (v := .ref lts) (C := RX7) (T := TX7) (N := 12) hx hb hts iX7 hown hK hP 0 rfl rfl 2 (by decide) (hts (.fieldLink RX7 24 "NeighboursMark" "letters" "LNeighboursMark$Numbers;") (by decide +kernel)) (fun _ h9 => h9) rfl dX7_letter_44 ?_
      refine va_get (D := (dC, dI)) (ci := 0) (v := .int 1) (C := RX1) (T := TX1) (N := 2) hx hb hts iX1 hown hK hP 2 rfl rfl 1 (by decide) (hts (.fieldLink RX7 80 "NeighboursMark$Numbers" "size" "I") (by decide +kernel)) (fun _ h9 => h9) rfl dX7_letter_47 ?_
      exact vx_iret (u := ()) hx hb hr hlocks hK hP hD hS [] rfl (by decide) (zz_t_letter_1 a c1 c2) dX7_letter_50
  · skip
    refine lv_aload_n hx hb dX7_letter_4 rfl (lv_at hl 0 rfl) ?_
    refine lv_bipush (v := (-4)) hx hb dX7_letter_5 (by decide) ?_
    have hPc := hP.sub (ws' := [(h0, .inr (5, [.ref now, .ref mind, .ref lts, .ref told, .ref rdr, .ref sea, .ref way, .ref ref, .ref ksc, .ref kle, .ref kto, .int 0])), (ref, .inl (cI, 7, .inl (fun _ => 0)))]) [0, 1] rfl
    have hDc := hD.sub (ws' := [(h0, .inr (5, [.ref now, .ref mind, .ref lts, .ref told, .ref rdr, .ref sea, .ref way, .ref ref, .ref ksc, .ref kle, .ref kto, .int 0])), (ref, .inl (cI, 7, .inl (fun _ => 0)))]) [0, 1] (by decide) rfl
    refine vx_calli (wc := [(h0, .inr (5, [.ref now, .ref mind, .ref lts, .ref told, .ref rdr, .ref sea, .ref way, .ref ref, .ref ksc, .ref kle, .ref kto, .int 0])), (ref, .inl (cI, 7, .inl (fun _ => 0)))]) (wr := [(lts, .inr (0, [.ref li, .int 0])), (li, .inl (cI, 64, .inl (fun _ => 0)))]) hP hD hS hA [0, 1] [2, 3] rfl rfl (by decide) (by decide) (va_runV (As := [.int (-4)]) (rest := []) ⟨hx, hb, hml, hown, hts⟩ (c_refuse4 l dC dI cI cC cZ _ h0 now mind lts told rdr sea way ref ksc kle kto 0 0 (fun _ => 0) rfl) (cwV 1 hts gX7_letter_X7_refuse rfl rfl rfl (by decide +kernel) ⟨Nat.le_of_ble_eq_true rfl, Nat.le_of_ble_eq_true rfl⟩) ⟨vx_blind, va_recv hK hPc (ci := 5) (q0 := 0) rfl rfl, vx_pre hK hPc hDc⟩ rfl rfl hl.1 rfl (lv_room (Nat.le_of_ble_eq_true rfl)) dX7_letter_7 ⟨Nat.le_of_ble_eq_true rfl, Nat.le_of_ble_eq_true rfl⟩) (fun r13 u12 H locs hw14 hP hD hS => ?_)
    have hP : va_P (dC, dI) vwCl [(lts, .inr (0, [.ref li, .int 0])), (li, .inl (cI, 64, .inl (fun _ => 0))), (h0, .inr (5, [.ref now, .ref mind, .ref lts, .ref told, .ref rdr, .ref sea, .ref way, .ref ref, .ref ksc, .ref kle, .ref kto, .int 0])), (ref, .inl (cI, 7, .inl (upd (fun _ => 0) 4 1)))] H := hP
    have hD : va_D A [(lts, .inr (0, [.ref li, .int 0])), (li, .inl (cI, 64, .inl (fun _ => 0))), (h0, .inr (5, [.ref now, .ref mind, .ref lts, .ref told, .ref rdr, .ref sea, .ref way, .ref ref, .ref ksc, .ref kle, .ref kto, .int 0])), (ref, .inl (cI, 7, .inl (upd (fun _ => 0) 4 1)))] := hD
    have er13 : (-4) = r13 := Eq.symm hw14
    subst er13
    exact vx_iret (u := ()) hx hb hr hlocks hK hP hD hS [] rfl (by decide) (zz_t_letter_2 a c1) dX7_letter_10
set_option maxHeartbeats 4000000 in
set_option maxRecDepth 100000 in
theorem t_school (l : Launch) (dC : Nat → ClassId) (dI : Nat → Nat → Nat) (cI cC cZ : ClassId) (sz : Nat) (h0 now mind lts told rdr sea way ref ksc kle kto nk0 nk1 nk2 nk3 nk4 nk5 nk6 nk7 nk8 nk9 mk0 mk1 mk2 mk3 mk4 mk5 mk6 mk7 mk8 mk9 tx li : Nat) : Met l yX7_school wsX7_school ({ frames := 3, cells := 0, slots := 0, locals := 72 }) (va_Pc [.ref h0] (vx_B (dC, dI) (vx_T cI cC cZ) sz [(h0, .inr (5, [.ref now, .ref mind, .ref lts, .ref told, .ref rdr, .ref sea, .ref way, .ref ref, .ref ksc, .ref kle, .ref kto, .int 0])), (now, .inr (2, [.int 0, .int 2, .int 1, .int 10, .int 0, .int 1, .ref nk0, .ref nk1, .ref nk2, .ref nk3, .ref nk4, .ref nk5, .ref nk6, .ref nk7, .ref nk8, .ref nk9])), (nk0, .inl (cI, 6, .inl (fun _ => 0))), (nk1, .inl (cI, 6, .inl (fun _ => 0))), (nk2, .inl (cI, 6, .inl (fun _ => 0))), (nk3, .inl (cI, 6, .inl (fun _ => 0))), (nk4, .inl (cI, 6, .inl (fun _ => 0))), (nk5, .inl (cI, 6, .inl (fun _ => 0))), (nk6, .inl (cI, 6, .inl (fun _ => 0))), (nk7, .inl (cI, 6, .inl (fun _ => 0))), (nk8, .inl (cI, 6, .inl (fun _ => 0))), (mind, .inr (2, [.int 0, .int 2, .int 1, .int 10, .int 0, .int 1, .ref mk0, .ref mk1, .ref mk2, .ref mk3, .ref mk4, .ref mk5, .ref mk6, .ref mk7, .ref mk8, .ref mk9])), (mk0, .inl (cI, 6, .inl (fun _ => 0))), (mk1, .inl (cI, 6, .inl (fun _ => 0))), (mk2, .inl (cI, 6, .inl (fun _ => 0))), (mk3, .inl (cI, 6, .inl (fun _ => 0))), (mk4, .inl (cI, 6, .inl (fun _ => 0))), (mk5, .inl (cI, 6, .inl (fun _ => 0))), (mk6, .inl (cI, 6, .inl (fun _ => 0))), (mk7, .inl (cI, 6, .inl (fun _ => 0))), (mk8, .inl (cI, 6, .inl (fun _ => 0))), (rdr, .inr (1, [.ref tx, .int 0])), (lts, .inr (0, [.ref li, .int 0]))])) (va_Qi (fun (r : Int32) (_ : Unit) => r = (-1000)) (vx_C (dC, dI) (vx_T cI cC cZ) (va_A [(h0, .inr (5, [.ref now, .ref mind, .ref lts, .ref told, .ref rdr, .ref sea, .ref way, .ref ref, .ref ksc, .ref kle, .ref kto, .int 0])), (now, .inr (2, [.int 0, .int 2, .int 1, .int 10, .int 0, .int 1, .ref nk0, .ref nk1, .ref nk2, .ref nk3, .ref nk4, .ref nk5, .ref nk6, .ref nk7, .ref nk8, .ref nk9])), (nk0, .inl (cI, 6, .inl (fun _ => 0))), (nk1, .inl (cI, 6, .inl (fun _ => 0))), (nk2, .inl (cI, 6, .inl (fun _ => 0))), (nk3, .inl (cI, 6, .inl (fun _ => 0))), (nk4, .inl (cI, 6, .inl (fun _ => 0))), (nk5, .inl (cI, 6, .inl (fun _ => 0))), (nk6, .inl (cI, 6, .inl (fun _ => 0))), (nk7, .inl (cI, 6, .inl (fun _ => 0))), (nk8, .inl (cI, 6, .inl (fun _ => 0))), (mind, .inr (2, [.int 0, .int 2, .int 1, .int 10, .int 0, .int 1, .ref mk0, .ref mk1, .ref mk2, .ref mk3, .ref mk4, .ref mk5, .ref mk6, .ref mk7, .ref mk8, .ref mk9])), (mk0, .inl (cI, 6, .inl (fun _ => 0))), (mk1, .inl (cI, 6, .inl (fun _ => 0))), (mk2, .inl (cI, 6, .inl (fun _ => 0))), (mk3, .inl (cI, 6, .inl (fun _ => 0))), (mk4, .inl (cI, 6, .inl (fun _ => 0))), (mk5, .inl (cI, 6, .inl (fun _ => 0))), (mk6, .inl (cI, 6, .inl (fun _ => 0))), (mk7, .inl (cI, 6, .inl (fun _ => 0))), (mk8, .inl (cI, 6, .inl (fun _ => 0))), (rdr, .inr (1, [.ref tx, .int 0])), (lts, .inr (0, [.ref li, .int 0]))] sz) (fun (u : Unit) => [])) (va_A [(h0, .inr (5, [.ref now, .ref mind, .ref lts, .ref told, .ref rdr, .ref sea, .ref way, .ref ref, .ref ksc, .ref kle, .ref kto, .int 0])), (now, .inr (2, [.int 0, .int 2, .int 1, .int 10, .int 0, .int 1, .ref nk0, .ref nk1, .ref nk2, .ref nk3, .ref nk4, .ref nk5, .ref nk6, .ref nk7, .ref nk8, .ref nk9])), (nk0, .inl (cI, 6, .inl (fun _ => 0))), (nk1, .inl (cI, 6, .inl (fun _ => 0))), (nk2, .inl (cI, 6, .inl (fun _ => 0))), (nk3, .inl (cI, 6, .inl (fun _ => 0))), (nk4, .inl (cI, 6, .inl (fun _ => 0))), (nk5, .inl (cI, 6, .inl (fun _ => 0))), (nk6, .inl (cI, 6, .inl (fun _ => 0))), (nk7, .inl (cI, 6, .inl (fun _ => 0))), (nk8, .inl (cI, 6, .inl (fun _ => 0))), (mind, .inr (2, [.int 0, .int 2, .int 1, .int 10, .int 0, .int 1, .ref mk0, .ref mk1, .ref mk2, .ref mk3, .ref mk4, .ref mk5, .ref mk6, .ref mk7, .ref mk8, .ref mk9])), (mk0, .inl (cI, 6, .inl (fun _ => 0))), (mk1, .inl (cI, 6, .inl (fun _ => 0))), (mk2, .inl (cI, 6, .inl (fun _ => 0))), (mk3, .inl (cI, 6, .inl (fun _ => 0))), (mk4, .inl (cI, 6, .inl (fun _ => 0))), (mk5, .inl (cI, 6, .inl (fun _ => 0))), (mk6, .inl (cI, 6, .inl (fun _ => 0))), (mk7, .inl (cI, 6, .inl (fun _ => 0))), (mk8, .inl (cI, 6, .inl (fun _ => 0))), (rdr, .inr (1, [.ref tx, .int 0])), (lts, .inr (0, [.ref li, .int 0]))] sz)) 0 0 (va_A [(h0, .inr (5, [.ref now, .ref mind, .ref lts, .ref told, .ref rdr, .ref sea, .ref way, .ref ref, .ref ksc, .ref kle, .ref kto, .int 0])), (now, .inr (2, [.int 0, .int 2, .int 1, .int 10, .int 0, .int 1, .ref nk0, .ref nk1, .ref nk2, .ref nk3, .ref nk4, .ref nk5, .ref nk6, .ref nk7, .ref nk8, .ref nk9])), (nk0, .inl (cI, 6, .inl (fun _ => 0))), (nk1, .inl (cI, 6, .inl (fun _ => 0))), (nk2, .inl (cI, 6, .inl (fun _ => 0))), (nk3, .inl (cI, 6, .inl (fun _ => 0))), (nk4, .inl (cI, 6, .inl (fun _ => 0))), (nk5, .inl (cI, 6, .inl (fun _ => 0))), (nk6, .inl (cI, 6, .inl (fun _ => 0))), (nk7, .inl (cI, 6, .inl (fun _ => 0))), (nk8, .inl (cI, 6, .inl (fun _ => 0))), (mind, .inr (2, [.int 0, .int 2, .int 1, .int 10, .int 0, .int 1, .ref mk0, .ref mk1, .ref mk2, .ref mk3, .ref mk4, .ref mk5, .ref mk6, .ref mk7, .ref mk8, .ref mk9])), (mk0, .inl (cI, 6, .inl (fun _ => 0))), (mk1, .inl (cI, 6, .inl (fun _ => 0))), (mk2, .inl (cI, 6, .inl (fun _ => 0))), (mk3, .inl (cI, 6, .inl (fun _ => 0))), (mk4, .inl (cI, 6, .inl (fun _ => 0))), (mk5, .inl (cI, 6, .inl (fun _ => 0))), (mk6, .inl (cI, 6, .inl (fun _ => 0))), (mk7, .inl (cI, 6, .inl (fun _ => 0))), (mk8, .inl (cI, 6, .inl (fun _ => 0))), (rdr, .inr (1, [.ref tx, .int 0])), (lts, .inr (0, [.ref li, .int 0]))] sz) := by
  refine Met.ofW (cc := cX7_school) (maxL := 2) (ret := (some .int)) (by decide) rfl ?_
  intro p e s m args below meth c s₁ B hml hv
  obtain ⟨rfl, hsz, hP, hK, hD0⟩ := hv
  have hx := B.exec
  have hb := B.bytes
  have hr := B.returns
  have hts := atoms_spec (ws := wsX7_school) B.pre
  have hown : s.vm.findClass RX7 = some m.cls := findClass_of_methodNamed B.named
  have hlocks := B.notSynchronized
  subst hsz
  have hD := hD0.self (sz := s.heap.size)
  generalize hAe : va_A [(h0, .inr (5, [.ref now, .ref mind, .ref lts, .ref told, .ref rdr, .ref sea, .ref way, .ref ref, .ref ksc, .ref kle, .ref kto, .int 0])), (now, .inr (2, [.int 0, .int 2, .int 1, .int 10, .int 0, .int 1, .ref nk0, .ref nk1, .ref nk2, .ref nk3, .ref nk4, .ref nk5, .ref nk6, .ref nk7, .ref nk8, .ref nk9])), (nk0, .inl (cI, 6, .inl (fun _ => 0))), (nk1, .inl (cI, 6, .inl (fun _ => 0))), (nk2, .inl (cI, 6, .inl (fun _ => 0))), (nk3, .inl (cI, 6, .inl (fun _ => 0))), (nk4, .inl (cI, 6, .inl (fun _ => 0))), (nk5, .inl (cI, 6, .inl (fun _ => 0))), (nk6, .inl (cI, 6, .inl (fun _ => 0))), (nk7, .inl (cI, 6, .inl (fun _ => 0))), (nk8, .inl (cI, 6, .inl (fun _ => 0))), (mind, .inr (2, [.int 0, .int 2, .int 1, .int 10, .int 0, .int 1, .ref mk0, .ref mk1, .ref mk2, .ref mk3, .ref mk4, .ref mk5, .ref mk6, .ref mk7, .ref mk8, .ref mk9])), (mk0, .inl (cI, 6, .inl (fun _ => 0))), (mk1, .inl (cI, 6, .inl (fun _ => 0))), (mk2, .inl (cI, 6, .inl (fun _ => 0))), (mk3, .inl (cI, 6, .inl (fun _ => 0))), (mk4, .inl (cI, 6, .inl (fun _ => 0))), (mk5, .inl (cI, 6, .inl (fun _ => 0))), (mk6, .inl (cI, 6, .inl (fun _ => 0))), (mk7, .inl (cI, 6, .inl (fun _ => 0))), (mk8, .inl (cI, 6, .inl (fun _ => 0))), (rdr, .inr (1, [.ref tx, .int 0])), (lts, .inr (0, [.ref li, .int 0]))] s.heap.size = A at hD ⊢
  have hA : ∀ q : Nat, s.heap.size ≤ q → A q := fun q h => by rw [← hAe]; exact Or.inr h
  have hS : va_S A s.heap s.heap [] := va_S.rf
  have hl := lv_entry ([.ref h0]) (n := 2) (Nat.le_of_ble_eq_true rfl)
  rw [lg_entry_eq]
  generalize (lg_sl ([.ref h0]) ++ List.replicate (2 - (lg_sl ([.ref h0])).length) Slot.unset).toArray = ls at hl ⊢
  have hl : lv_has ls 2 [(0, .ref h0)] := hl
  have iX7 : ∀ w ∈ u_ws RX7 TX7 12, w ∈ wsX7_school := by decide +kernel
  refine lv_aload_n hx hb dX7_school_0 rfl (lv_at hl 0 rfl) ?_
  refine va_get (D := (dC, dI)) (ci := 5) (v := .ref mind) (C := RX7) (T := TX7) (N := 12) hx hb hts iX7 hown hK hP 0 rfl rfl 1 (by decide) (hts (.fieldLink RX7 16 "NeighboursMark" "mind" "LNeighboursMark$School;") (by decide +kernel)) (fun _ h9 => h9) rfl dX7_school_1 ?_
  refine lv_aload_n hx hb dX7_school_4 rfl (lv_at hl 0 rfl) ?_
  refine va_get (D := (dC, dI)) (ci := 5) (v := .ref now) (C := RX7) (T := TX7) (N := 12) hx hb hts iX7 hown hK hP 0 rfl rfl 0 (by decide) (hts (.fieldLink RX7 10 "NeighboursMark" "now" "LNeighboursMark$School;") (by decide +kernel)) (fun _ h9 => h9) rfl dX7_school_5 ?_
  have hPc := hP.sub (ws' := [(mind, .inr (2, [.int 0, .int 2, .int 1, .int 10, .int 0, .int 1, .ref mk0, .ref mk1, .ref mk2, .ref mk3, .ref mk4, .ref mk5, .ref mk6, .ref mk7, .ref mk8, .ref mk9])), (mk0, .inl (cI, 6, .inl (fun _ => 0))), (mk1, .inl (cI, 6, .inl (fun _ => 0))), (mk2, .inl (cI, 6, .inl (fun _ => 0))), (mk3, .inl (cI, 6, .inl (fun _ => 0))), (mk4, .inl (cI, 6, .inl (fun _ => 0))), (mk5, .inl (cI, 6, .inl (fun _ => 0))), (mk6, .inl (cI, 6, .inl (fun _ => 0))), (mk7, .inl (cI, 6, .inl (fun _ => 0))), (mk8, .inl (cI, 6, .inl (fun _ => 0))), (now, .inr (2, [.int 0, .int 2, .int 1, .int 10, .int 0, .int 1, .ref nk0, .ref nk1, .ref nk2, .ref nk3, .ref nk4, .ref nk5, .ref nk6, .ref nk7, .ref nk8, .ref nk9])), (nk0, .inl (cI, 6, .inl (fun _ => 0))), (nk1, .inl (cI, 6, .inl (fun _ => 0))), (nk2, .inl (cI, 6, .inl (fun _ => 0))), (nk3, .inl (cI, 6, .inl (fun _ => 0))), (nk4, .inl (cI, 6, .inl (fun _ => 0))), (nk5, .inl (cI, 6, .inl (fun _ => 0))), (nk6, .inl (cI, 6, .inl (fun _ => 0))), (nk7, .inl (cI, 6, .inl (fun _ => 0))), (nk8, .inl (cI, 6, .inl (fun _ => 0)))]) [11, 12, 13, 14, 15, 16, 17, 18, 19, 20, 1, 2, 3, 4, 5, 6, 7, 8, 9, 10] rfl
  have hDc := hD.sub (ws' := [(mind, .inr (2, [.int 0, .int 2, .int 1, .int 10, .int 0, .int 1, .ref mk0, .ref mk1, .ref mk2, .ref mk3, .ref mk4, .ref mk5, .ref mk6, .ref mk7, .ref mk8, .ref mk9])), (mk0, .inl (cI, 6, .inl (fun _ => 0))), (mk1, .inl (cI, 6, .inl (fun _ => 0))), (mk2, .inl (cI, 6, .inl (fun _ => 0))), (mk3, .inl (cI, 6, .inl (fun _ => 0))), (mk4, .inl (cI, 6, .inl (fun _ => 0))), (mk5, .inl (cI, 6, .inl (fun _ => 0))), (mk6, .inl (cI, 6, .inl (fun _ => 0))), (mk7, .inl (cI, 6, .inl (fun _ => 0))), (mk8, .inl (cI, 6, .inl (fun _ => 0))), (now, .inr (2, [.int 0, .int 2, .int 1, .int 10, .int 0, .int 1, .ref nk0, .ref nk1, .ref nk2, .ref nk3, .ref nk4, .ref nk5, .ref nk6, .ref nk7, .ref nk8, .ref nk9])), (nk0, .inl (cI, 6, .inl (fun _ => 0))), (nk1, .inl (cI, 6, .inl (fun _ => 0))), (nk2, .inl (cI, 6, .inl (fun _ => 0))), (nk3, .inl (cI, 6, .inl (fun _ => 0))), (nk4, .inl (cI, 6, .inl (fun _ => 0))), (nk5, .inl (cI, 6, .inl (fun _ => 0))), (nk6, .inl (cI, 6, .inl (fun _ => 0))), (nk7, .inl (cI, 6, .inl (fun _ => 0))), (nk8, .inl (cI, 6, .inl (fun _ => 0)))]) [11, 12, 13, 14, 15, 16, 17, 18, 19, 20, 1, 2, 3, 4, 5, 6, 7, 8, 9, 10] (by decide) rfl
  refine vx_callv (wc := [(mind, .inr (2, [.int 0, .int 2, .int 1, .int 10, .int 0, .int 1, .ref mk0, .ref mk1, .ref mk2, .ref mk3, .ref mk4, .ref mk5, .ref mk6, .ref mk7, .ref mk8, .ref mk9])), (mk0, .inl (cI, 6, .inl (fun _ => 0))), (mk1, .inl (cI, 6, .inl (fun _ => 0))), (mk2, .inl (cI, 6, .inl (fun _ => 0))), (mk3, .inl (cI, 6, .inl (fun _ => 0))), (mk4, .inl (cI, 6, .inl (fun _ => 0))), (mk5, .inl (cI, 6, .inl (fun _ => 0))), (mk6, .inl (cI, 6, .inl (fun _ => 0))), (mk7, .inl (cI, 6, .inl (fun _ => 0))), (mk8, .inl (cI, 6, .inl (fun _ => 0))), (now, .inr (2, [.int 0, .int 2, .int 1, .int 10, .int 0, .int 1, .ref nk0, .ref nk1, .ref nk2, .ref nk3, .ref nk4, .ref nk5, .ref nk6, .ref nk7, .ref nk8, .ref nk9])), (nk0, .inl (cI, 6, .inl (fun _ => 0))), (nk1, .inl (cI, 6, .inl (fun _ => 0))), (nk2, .inl (cI, 6, .inl (fun _ => 0))), (nk3, .inl (cI, 6, .inl (fun _ => 0))), (nk4, .inl (cI, 6, .inl (fun _ => 0))), (nk5, .inl (cI, 6, .inl (fun _ => 0))), (nk6, .inl (cI, 6, .inl (fun _ => 0))), (nk7, .inl (cI, 6, .inl (fun _ => 0))), (nk8, .inl (cI, 6, .inl (fun _ => 0)))]) (wr := [(h0, .inr (5, [.ref now, .ref mind, .ref lts, .ref told, .ref rdr, .ref sea, .ref way, .ref ref, .ref ksc, .ref kle, .ref kto, .int 0])), (rdr, .inr (1, [.ref tx, .int 0])), (lts, .inr (0, [.ref li, .int 0]))]) hP hD hS hA [11, 12, 13, 14, 15, 16, 17, 18, 19, 20, 1, 2, 3, 4, 5, 6, 7, 8, 9, 10] [0, 21, 22] rfl rfl (by decide) (by decide) (va_runV (As := [.ref now]) (rest := []) ⟨hx, hb, hml, hown, hts⟩ (c_copy l dC dI cI cC cZ _ mind now mk0 mk1 mk2 mk3 mk4 mk5 mk6 mk7 mk8 mk9 nk0 nk1 nk2 nk3 nk4 nk5 nk6 nk7 nk8 nk9 2 1 10 0 2 1 10 0 (fun _ => 0) (fun _ => 0) (fun _ => 0) (fun _ => 0) (fun _ => 0) (fun _ => 0) (fun _ => 0) (fun _ => 0) (fun _ => 0) (fun _ => 0) (fun _ => 0) (fun _ => 0) (fun _ => 0) (fun _ => 0) (fun _ => 0) (fun _ => 0) (fun _ => 0) (fun _ => 0)) (cwV 1 hts gX7_school_X3_copyFrom rfl rfl rfl (by decide +kernel) ⟨Nat.le_of_ble_eq_true rfl, Nat.le_of_ble_eq_true rfl⟩) ⟨vx_blind, va_recv hK hPc (ci := 2) (q0 := 0) rfl rfl, vx_pre hK hPc hDc⟩ rfl rfl hl.1 rfl (lv_room (Nat.le_of_ble_eq_true rfl)) dX7_school_8 ⟨Nat.le_of_ble_eq_true rfl, Nat.le_of_ble_eq_true rfl⟩) (fun u1 H locs hw3 hP hD hS => ?_)
  have hP : va_P (dC, dI) vwCl [(h0, .inr (5, [.ref now, .ref mind, .ref lts, .ref told, .ref rdr, .ref sea, .ref way, .ref ref, .ref ksc, .ref kle, .ref kto, .int 0])), (rdr, .inr (1, [.ref tx, .int 0])), (lts, .inr (0, [.ref li, .int 0])), (mind, .inr (2, [.int 0, .int 2, .int 1, .int 10, .int 0, .int 1, .ref mk0, .ref mk1, .ref mk2, .ref mk3, .ref mk4, .ref mk5, .ref mk6, .ref mk7, .ref mk8, .ref mk9])), (mk0, .inl (cI, 6, .inl (va_cpy (fun _ => 0) (fun _ => 0) 0 0 6))), (mk1, .inl (cI, 6, .inl (va_cpy (fun _ => 0) (fun _ => 0) 0 0 6))), (mk2, .inl (cI, 6, .inl (va_cpy (fun _ => 0) (fun _ => 0) 0 0 6))), (mk3, .inl (cI, 6, .inl (va_cpy (fun _ => 0) (fun _ => 0) 0 0 6))), (mk4, .inl (cI, 6, .inl (va_cpy (fun _ => 0) (fun _ => 0) 0 0 6))), (mk5, .inl (cI, 6, .inl (va_cpy (fun _ => 0) (fun _ => 0) 0 0 6))), (mk6, .inl (cI, 6, .inl (va_cpy (fun _ => 0) (fun _ => 0) 0 0 6))), (mk7, .inl (cI, 6, .inl (va_cpy (fun _ => 0) (fun _ => 0) 0 0 6))), (mk8, .inl (cI, 6, .inl (va_cpy (fun _ => 0) (fun _ => 0) 0 0 6))), (now, .inr (2, [.int 0, .int 2, .int 1, .int 10, .int 0, .int 1, .ref nk0, .ref nk1, .ref nk2, .ref nk3, .ref nk4, .ref nk5, .ref nk6, .ref nk7, .ref nk8, .ref nk9])), (nk0, .inl (cI, 6, .inl (fun _ => 0))), (nk1, .inl (cI, 6, .inl (fun _ => 0))), (nk2, .inl (cI, 6, .inl (fun _ => 0))), (nk3, .inl (cI, 6, .inl (fun _ => 0))), (nk4, .inl (cI, 6, .inl (fun _ => 0))), (nk5, .inl (cI, 6, .inl (fun _ => 0))), (nk6, .inl (cI, 6, .inl (fun _ => 0))), (nk7, .inl (cI, 6, .inl (fun _ => 0))), (nk8, .inl (cI, 6, .inl (fun _ => 0)))] H := hP
  have hD : va_D A [(h0, .inr (5, [.ref now, .ref mind, .ref lts, .ref told, .ref rdr, .ref sea, .ref way, .ref ref, .ref ksc, .ref kle, .ref kto, .int 0])), (rdr, .inr (1, [.ref tx, .int 0])), (lts, .inr (0, [.ref li, .int 0])), (mind, .inr (2, [.int 0, .int 2, .int 1, .int 10, .int 0, .int 1, .ref mk0, .ref mk1, .ref mk2, .ref mk3, .ref mk4, .ref mk5, .ref mk6, .ref mk7, .ref mk8, .ref mk9])), (mk0, .inl (cI, 6, .inl (va_cpy (fun _ => 0) (fun _ => 0) 0 0 6))), (mk1, .inl (cI, 6, .inl (va_cpy (fun _ => 0) (fun _ => 0) 0 0 6))), (mk2, .inl (cI, 6, .inl (va_cpy (fun _ => 0) (fun _ => 0) 0 0 6))), (mk3, .inl (cI, 6, .inl (va_cpy (fun _ => 0) (fun _ => 0) 0 0 6))), (mk4, .inl (cI, 6, .inl (va_cpy (fun _ => 0) (fun _ => 0) 0 0 6))), (mk5, .inl (cI, 6, .inl (va_cpy (fun _ => 0) (fun _ => 0) 0 0 6))), (mk6, .inl (cI, 6, .inl (va_cpy (fun _ => 0) (fun _ => 0) 0 0 6))), (mk7, .inl (cI, 6, .inl (va_cpy (fun _ => 0) (fun _ => 0) 0 0 6))), (mk8, .inl (cI, 6, .inl (va_cpy (fun _ => 0) (fun _ => 0) 0 0 6))), (now, .inr (2, [.int 0, .int 2, .int 1, .int 10, .int 0, .int 1, .ref nk0, .ref nk1, .ref nk2, .ref nk3, .ref nk4, .ref nk5, .ref nk6, .ref nk7, .ref nk8, .ref nk9])), (nk0, .inl (cI, 6, .inl (fun _ => 0))), (nk1, .inl (cI, 6, .inl (fun _ => 0))), (nk2, .inl (cI, 6, .inl (fun _ => 0))), (nk3, .inl (cI, 6, .inl (fun _ => 0))), (nk4, .inl (cI, 6, .inl (fun _ => 0))), (nk5, .inl (cI, 6, .inl (fun _ => 0))), (nk6, .inl (cI, 6, .inl (fun _ => 0))), (nk7, .inl (cI, 6, .inl (fun _ => 0))), (nk8, .inl (cI, 6, .inl (fun _ => 0)))] := hD
  refine lv_aload_n hx hb dX7_school_11 rfl (lv_at hl 0 rfl) ?_
  refine va_get (D := (dC, dI)) (ci := 5) (v := .ref rdr) (C := RX7) (T := TX7) (N := 12) hx hb hts iX7 hown hK hP 0 rfl rfl 4 (by decide) (hts (.fieldLink RX7 34 "NeighboursMark" "reader" "LNeighboursMark$Reader;") (by decide +kernel)) (fun _ h9 => h9) rfl dX7_school_12 ?_
  refine lv_aload_n hx hb dX7_school_15 rfl (lv_at hl 0 rfl) ?_
  refine va_get (D := (dC, dI)) (ci := 5) (v := .ref lts) (C := RX7) (T := TX7) (N := 12) hx hb hts iX7 hown hK hP 0 rfl rfl 2 (by decide) (hts (.fieldLink RX7 24 "NeighboursMark" "letters" "LNeighboursMark$Numbers;") (by decide +kernel)) (fun _ h9 => h9) rfl dX7_school_16 ?_
  refine lv_aload_n hx hb dX7_school_19 rfl (lv_at hl 0 rfl) ?_
  refine va_get (D := (dC, dI)) (ci := 5) (v := .ref mind) (C := RX7) (T := TX7) (N := 12) hx hb hts iX7 hown hK hP 0 rfl rfl 1 (by decide) (hts (.fieldLink RX7 16 "NeighboursMark" "mind" "LNeighboursMark$School;") (by decide +kernel)) (fun _ h9 => h9) rfl dX7_school_20 ?_
  have hPc := hP.sub (ws' := [(rdr, .inr (1, [.ref tx, .int 0])), (lts, .inr (0, [.ref li, .int 0]))]) [1, 2] rfl
  have hDc := hD.sub (ws' := [(rdr, .inr (1, [.ref tx, .int 0])), (lts, .inr (0, [.ref li, .int 0]))]) [1, 2] (by decide) rfl
  refine vx_calli (wc := [(rdr, .inr (1, [.ref tx, .int 0])), (lts, .inr (0, [.ref li, .int 0]))]) (wr := [(h0, .inr (5, [.ref now, .ref mind, .ref lts, .ref told, .ref rdr, .ref sea, .ref way, .ref ref, .ref ksc, .ref kle, .ref kto, .int 0])), (mind, .inr (2, [.int 0, .int 2, .int 1, .int 10, .int 0, .int 1, .ref mk0, .ref mk1, .ref mk2, .ref mk3, .ref mk4, .ref mk5, .ref mk6, .ref mk7, .ref mk8, .ref mk9])), (mk0, .inl (cI, 6, .inl (va_cpy (fun _ => 0) (fun _ => 0) 0 0 6))), (mk1, .inl (cI, 6, .inl (va_cpy (fun _ => 0) (fun _ => 0) 0 0 6))), (mk2, .inl (cI, 6, .inl (va_cpy (fun _ => 0) (fun _ => 0) 0 0 6))), (mk3, .inl (cI, 6, .inl (va_cpy (fun _ => 0) (fun _ => 0) 0 0 6))), (mk4, .inl (cI, 6, .inl (va_cpy (fun _ => 0) (fun _ => 0) 0 0 6))), (mk5, .inl (cI, 6, .inl (va_cpy (fun _ => 0) (fun _ => 0) 0 0 6))), (mk6, .inl (cI, 6, .inl (va_cpy (fun _ => 0) (fun _ => 0) 0 0 6))), (mk7, .inl (cI, 6, .inl (va_cpy (fun _ => 0) (fun _ => 0) 0 0 6))), (mk8, .inl (cI, 6, .inl (va_cpy (fun _ => 0) (fun _ => 0) 0 0 6))), (now, .inr (2, [.int 0, .int 2, .int 1, .int 10, .int 0, .int 1, .ref nk0, .ref nk1, .ref nk2, .ref nk3, .ref nk4, .ref nk5, .ref nk6, .ref nk7, .ref nk8, .ref nk9])), (nk0, .inl (cI, 6, .inl (fun _ => 0))), (nk1, .inl (cI, 6, .inl (fun _ => 0))), (nk2, .inl (cI, 6, .inl (fun _ => 0))), (nk3, .inl (cI, 6, .inl (fun _ => 0))), (nk4, .inl (cI, 6, .inl (fun _ => 0))), (nk5, .inl (cI, 6, .inl (fun _ => 0))), (nk6, .inl (cI, 6, .inl (fun _ => 0))), (nk7, .inl (cI, 6, .inl (fun _ => 0))), (nk8, .inl (cI, 6, .inl (fun _ => 0)))]) hP hD hS hA [1, 2] [0, 3, 4, 5, 6, 7, 8, 9, 10, 11, 12, 13, 14, 15, 16, 17, 18, 19, 20, 21, 22] rfl rfl (by decide) (by decide) (va_runV (As := [.ref lts, .ref mind]) (rest := []) ⟨hx, hb, hml, hown, hts⟩ (c_read l dC dI cI cC cZ _ rdr lts mind tx li 0) (cwV 2 hts gX7_school_X2_read rfl rfl rfl (by decide +kernel) ⟨Nat.le_of_ble_eq_true rfl, Nat.le_of_ble_eq_true rfl⟩) ⟨vx_blind, va_recv hK hPc (ci := 1) (q0 := 0) rfl rfl, vx_pre hK hPc hDc⟩ rfl rfl hl.1 rfl (lv_room (Nat.le_of_ble_eq_true rfl)) dX7_school_23 ⟨Nat.le_of_ble_eq_true rfl, Nat.le_of_ble_eq_true rfl⟩) (fun r5 u4 H locs hw6 hP hD hS => ?_)
  have hP : va_P (dC, dI) vwCl [(h0, .inr (5, [.ref now, .ref mind, .ref lts, .ref told, .ref rdr, .ref sea, .ref way, .ref ref, .ref ksc, .ref kle, .ref kto, .int 0])), (mind, .inr (2, [.int 0, .int 2, .int 1, .int 10, .int 0, .int 1, .ref mk0, .ref mk1, .ref mk2, .ref mk3, .ref mk4, .ref mk5, .ref mk6, .ref mk7, .ref mk8, .ref mk9])), (mk0, .inl (cI, 6, .inl (va_cpy (fun _ => 0) (fun _ => 0) 0 0 6))), (mk1, .inl (cI, 6, .inl (va_cpy (fun _ => 0) (fun _ => 0) 0 0 6))), (mk2, .inl (cI, 6, .inl (va_cpy (fun _ => 0) (fun _ => 0) 0 0 6))), (mk3, .inl (cI, 6, .inl (va_cpy (fun _ => 0) (fun _ => 0) 0 0 6))), (mk4, .inl (cI, 6, .inl (va_cpy (fun _ => 0) (fun _ => 0) 0 0 6))), (mk5, .inl (cI, 6, .inl (va_cpy (fun _ => 0) (fun _ => 0) 0 0 6))), (mk6, .inl (cI, 6, .inl (va_cpy (fun _ => 0) (fun _ => 0) 0 0 6))), (mk7, .inl (cI, 6, .inl (va_cpy (fun _ => 0) (fun _ => 0) 0 0 6))), (mk8, .inl (cI, 6, .inl (va_cpy (fun _ => 0) (fun _ => 0) 0 0 6))), (now, .inr (2, [.int 0, .int 2, .int 1, .int 10, .int 0, .int 1, .ref nk0, .ref nk1, .ref nk2, .ref nk3, .ref nk4, .ref nk5, .ref nk6, .ref nk7, .ref nk8, .ref nk9])), (nk0, .inl (cI, 6, .inl (fun _ => 0))), (nk1, .inl (cI, 6, .inl (fun _ => 0))), (nk2, .inl (cI, 6, .inl (fun _ => 0))), (nk3, .inl (cI, 6, .inl (fun _ => 0))), (nk4, .inl (cI, 6, .inl (fun _ => 0))), (nk5, .inl (cI, 6, .inl (fun _ => 0))), (nk6, .inl (cI, 6, .inl (fun _ => 0))), (nk7, .inl (cI, 6, .inl (fun _ => 0))), (nk8, .inl (cI, 6, .inl (fun _ => 0))), (rdr, .inr (1, [.ref lts, .int 0])), (lts, .inr (0, [.ref li, .int 0]))] H := hP
  have hD : va_D A [(h0, .inr (5, [.ref now, .ref mind, .ref lts, .ref told, .ref rdr, .ref sea, .ref way, .ref ref, .ref ksc, .ref kle, .ref kto, .int 0])), (mind, .inr (2, [.int 0, .int 2, .int 1, .int 10, .int 0, .int 1, .ref mk0, .ref mk1, .ref mk2, .ref mk3, .ref mk4, .ref mk5, .ref mk6, .ref mk7, .ref mk8, .ref mk9])), (mk0, .inl (cI, 6, .inl (va_cpy (fun _ => 0) (fun _ => 0) 0 0 6))), (mk1, .inl (cI, 6, .inl (va_cpy (fun _ => 0) (fun _ => 0) 0 0 6))), (mk2, .inl (cI, 6, .inl (va_cpy (fun _ => 0) (fun _ => 0) 0 0 6))), (mk3, .inl (cI, 6, .inl (va_cpy (fun _ => 0) (fun _ => 0) 0 0 6))), (mk4, .inl (cI, 6, .inl (va_cpy (fun _ => 0) (fun _ => 0) 0 0 6))), (mk5, .inl (cI, 6, .inl (va_cpy (fun _ => 0) (fun _ => 0) 0 0 6))), (mk6, .inl (cI, 6, .inl (va_cpy (fun _ => 0) (fun _ => 0) 0 0 6))), (mk7, .inl (cI, 6, .inl (va_cpy (fun _ => 0) (fun _ => 0) 0 0 6))), (mk8, .inl (cI, 6, .inl (va_cpy (fun _ => 0) (fun _ => 0) 0 0 6))), (now, .inr (2, [.int 0, .int 2, .int 1, .int 10, .int 0, .int 1, .ref nk0, .ref nk1, .ref nk2, .ref nk3, .ref nk4, .ref nk5, .ref nk6, .ref nk7, .ref nk8, .ref nk9])), (nk0, .inl (cI, 6, .inl (fun _ => 0))), (nk1, .inl (cI, 6, .inl (fun _ => 0))), (nk2, .inl (cI, 6, .inl (fun _ => 0))), (nk3, .inl (cI, 6, .inl (fun _ => 0))), (nk4, .inl (cI, 6, .inl (fun _ => 0))), (nk5, .inl (cI, 6, .inl (fun _ => 0))), (nk6, .inl (cI, 6, .inl (fun _ => 0))), (nk7, .inl (cI, 6, .inl (fun _ => 0))), (nk8, .inl (cI, 6, .inl (fun _ => 0))), (rdr, .inr (1, [.ref lts, .int 0])), (lts, .inr (0, [.ref li, .int 0]))] := hD
  have er5 : (-1000) = r5 := Eq.symm hw6
  subst er5
  refine lv_istore_n (lv' := [(1, .int (-1000)), (0, .ref h0)]) hx hb dX7_school_26 rfl hl (by decide) rfl (fun ls hl => ?_)
  refine lv_iload_n hx hb dX7_school_27 rfl (lv_at hl 0 rfl) ?_
  refine lv_if_lt (tgt := 42) hx hb dX7_school_28 (by decide) (fun _ => ?_) (fun c0 => absurd (by decide) c0)
  refine lv_aload_n hx hb dX7_school_42 rfl (lv_at hl 1 rfl) ?_
  refine va_get (D := (dC, dI)) (ci := 5) (v := .ref lts) (C := RX7) (T := TX7) (N := 12) hx hb hts iX7 hown hK hP 0 rfl rfl 2 (by decide) (hts (.fieldLink RX7 24 "NeighboursMark" "letters" "LNeighboursMark$Numbers;") (by decide +kernel)) (fun _ h9 => h9) rfl dX7_school_43 ?_
  have hPc := hP.sub (ws' := [(lts, .inr (0, [.ref li, .int 0]))]) [22] rfl
  have hDc := hD.sub (ws' := [(lts, .inr (0, [.ref li, .int 0]))]) [22] (by decide) rfl
  refine vx_callv (wc := [(lts, .inr (0, [.ref li, .int 0]))]) (wr := [(h0, .inr (5, [.ref now, .ref mind, .ref lts, .ref told, .ref rdr, .ref sea, .ref way, .ref ref, .ref ksc, .ref kle, .ref kto, .int 0])), (mind, .inr (2, [.int 0, .int 2, .int 1, .int 10, .int 0, .int 1, .ref mk0, .ref mk1, .ref mk2, .ref mk3, .ref mk4, .ref mk5, .ref mk6, .ref mk7, .ref mk8, .ref mk9])), (mk0, .inl (cI, 6, .inl (va_cpy (fun _ => 0) (fun _ => 0) 0 0 6))), (mk1, .inl (cI, 6, .inl (va_cpy (fun _ => 0) (fun _ => 0) 0 0 6))), (mk2, .inl (cI, 6, .inl (va_cpy (fun _ => 0) (fun _ => 0) 0 0 6))), (mk3, .inl (cI, 6, .inl (va_cpy (fun _ => 0) (fun _ => 0) 0 0 6))), (mk4, .inl (cI, 6, .inl (va_cpy (fun _ => 0) (fun _ => 0) 0 0 6))), (mk5, .inl (cI, 6, .inl (va_cpy (fun _ => 0) (fun _ => 0) 0 0 6))), (mk6, .inl (cI, 6, .inl (va_cpy (fun _ => 0) (fun _ => 0) 0 0 6))), (mk7, .inl (cI, 6, .inl (va_cpy (fun _ => 0) (fun _ => 0) 0 0 6))), (mk8, .inl (cI, 6, .inl (va_cpy (fun _ => 0) (fun _ => 0) 0 0 6))), (now, .inr (2, [.int 0, .int 2, .int 1, .int 10, .int 0, .int 1, .ref nk0, .ref nk1, .ref nk2, .ref nk3, .ref nk4, .ref nk5, .ref nk6, .ref nk7, .ref nk8, .ref nk9])), (nk0, .inl (cI, 6, .inl (fun _ => 0))), (nk1, .inl (cI, 6, .inl (fun _ => 0))), (nk2, .inl (cI, 6, .inl (fun _ => 0))), (nk3, .inl (cI, 6, .inl (fun _ => 0))), (nk4, .inl (cI, 6, .inl (fun _ => 0))), (nk5, .inl (cI, 6, .inl (fun _ => 0))), (nk6, .inl (cI, 6, .inl (fun _ => 0))), (nk7, .inl (cI, 6, .inl (fun _ => 0))), (nk8, .inl (cI, 6, .inl (fun _ => 0))), (rdr, .inr (1, [.ref lts, .int 0]))]) hP hD hS hA [22] [0, 1, 2, 3, 4, 5, 6, 7, 8, 9, 10, 11, 12, 13, 14, 15, 16, 17, 18, 19, 20, 21] rfl rfl (by decide) (by decide) (va_runV (As := []) (rest := []) ⟨hx, hb, hml, hown, hts⟩ (c_clear l dC dI cI cC cZ _ lts li) (cwV 0 hts gX7_school_X1_clear rfl rfl rfl (by decide +kernel) ⟨Nat.le_of_ble_eq_true rfl, Nat.le_of_ble_eq_true rfl⟩) ⟨vx_blind, va_recv hK hPc (ci := 0) (q0 := 0) rfl rfl, vx_pre hK hPc hDc⟩ rfl rfl hl.1 rfl (lv_room (Nat.le_of_ble_eq_true rfl)) dX7_school_46 ⟨Nat.le_of_ble_eq_true rfl, Nat.le_of_ble_eq_true rfl⟩) (fun u7 H locs hw9 hP hD hS => ?_)
  have hP : va_P (dC, dI) vwCl [(h0, .inr (5, [.ref now, .ref mind, .ref lts, .ref told, .ref rdr, .ref sea, .ref way, .ref ref, .ref ksc, .ref kle, .ref kto, .int 0])), (mind, .inr (2, [.int 0, .int 2, .int 1, .int 10, .int 0, .int 1, .ref mk0, .ref mk1, .ref mk2, .ref mk3, .ref mk4, .ref mk5, .ref mk6, .ref mk7, .ref mk8, .ref mk9])), (mk0, .inl (cI, 6, .inl (va_cpy (fun _ => 0) (fun _ => 0) 0 0 6))), (mk1, .inl (cI, 6, .inl (va_cpy (fun _ => 0) (fun _ => 0) 0 0 6))), (mk2, .inl (cI, 6, .inl (va_cpy (fun _ => 0) (fun _ => 0) 0 0 6))), (mk3, .inl (cI, 6, .inl (va_cpy (fun _ => 0) (fun _ => 0) 0 0 6))), (mk4, .inl (cI, 6, .inl (va_cpy (fun _ => 0) (fun _ => 0) 0 0 6))), (mk5, .inl (cI, 6, .inl (va_cpy (fun _ => 0) (fun _ => 0) 0 0 6))), (mk6, .inl (cI, 6, .inl (va_cpy (fun _ => 0) (fun _ => 0) 0 0 6))), (mk7, .inl (cI, 6, .inl (va_cpy (fun _ => 0) (fun _ => 0) 0 0 6))), (mk8, .inl (cI, 6, .inl (va_cpy (fun _ => 0) (fun _ => 0) 0 0 6))), (now, .inr (2, [.int 0, .int 2, .int 1, .int 10, .int 0, .int 1, .ref nk0, .ref nk1, .ref nk2, .ref nk3, .ref nk4, .ref nk5, .ref nk6, .ref nk7, .ref nk8, .ref nk9])), (nk0, .inl (cI, 6, .inl (fun _ => 0))), (nk1, .inl (cI, 6, .inl (fun _ => 0))), (nk2, .inl (cI, 6, .inl (fun _ => 0))), (nk3, .inl (cI, 6, .inl (fun _ => 0))), (nk4, .inl (cI, 6, .inl (fun _ => 0))), (nk5, .inl (cI, 6, .inl (fun _ => 0))), (nk6, .inl (cI, 6, .inl (fun _ => 0))), (nk7, .inl (cI, 6, .inl (fun _ => 0))), (nk8, .inl (cI, 6, .inl (fun _ => 0))), (rdr, .inr (1, [.ref lts, .int 0])), (lts, .inr (0, [.ref li, .int 0]))] H := hP
  have hD : va_D A [(h0, .inr (5, [.ref now, .ref mind, .ref lts, .ref told, .ref rdr, .ref sea, .ref way, .ref ref, .ref ksc, .ref kle, .ref kto, .int 0])), (mind, .inr (2, [.int 0, .int 2, .int 1, .int 10, .int 0, .int 1, .ref mk0, .ref mk1, .ref mk2, .ref mk3, .ref mk4, .ref mk5, .ref mk6, .ref mk7, .ref mk8, .ref mk9])), (mk0, .inl (cI, 6, .inl (va_cpy (fun _ => 0) (fun _ => 0) 0 0 6))), (mk1, .inl (cI, 6, .inl (va_cpy (fun _ => 0) (fun _ => 0) 0 0 6))), (mk2, .inl (cI, 6, .inl (va_cpy (fun _ => 0) (fun _ => 0) 0 0 6))), (mk3, .inl (cI, 6, .inl (va_cpy (fun _ => 0) (fun _ => 0) 0 0 6))), (mk4, .inl (cI, 6, .inl (va_cpy (fun _ => 0) (fun _ => 0) 0 0 6))), (mk5, .inl (cI, 6, .inl (va_cpy (fun _ => 0) (fun _ => 0) 0 0 6))), (mk6, .inl (cI, 6, .inl (va_cpy (fun _ => 0) (fun _ => 0) 0 0 6))), (mk7, .inl (cI, 6, .inl (va_cpy (fun _ => 0) (fun _ => 0) 0 0 6))), (mk8, .inl (cI, 6, .inl (va_cpy (fun _ => 0) (fun _ => 0) 0 0 6))), (now, .inr (2, [.int 0, .int 2, .int 1, .int 10, .int 0, .int 1, .ref nk0, .ref nk1, .ref nk2, .ref nk3, .ref nk4, .ref nk5, .ref nk6, .ref nk7, .ref nk8, .ref nk9])), (nk0, .inl (cI, 6, .inl (fun _ => 0))), (nk1, .inl (cI, 6, .inl (fun _ => 0))), (nk2, .inl (cI, 6, .inl (fun _ => 0))), (nk3, .inl (cI, 6, .inl (fun _ => 0))), (nk4, .inl (cI, 6, .inl (fun _ => 0))), (nk5, .inl (cI, 6, .inl (fun _ => 0))), (nk6, .inl (cI, 6, .inl (fun _ => 0))), (nk7, .inl (cI, 6, .inl (fun _ => 0))), (nk8, .inl (cI, 6, .inl (fun _ => 0))), (rdr, .inr (1, [.ref lts, .int 0])), (lts, .inr (0, [.ref li, .int 0]))] := hD
  refine lv_iload_n hx hb dX7_school_49 rfl (lv_at hl 0 rfl) ?_
  exact vx_iret (u := ()) hx hb hr hlocks hK hP hD hS [] rfl (by decide) rfl dX7_school_50
set_option maxHeartbeats 4000000 in
set_option maxRecDepth 100000 in
theorem t_pupil (l : Launch) (dC : Nat → ClassId) (dI : Nat → Nat → Nat) (cI cC cZ : ClassId) (sz : Nat) (h0 now mind lts told rdr sea way ref ksc kle kto nk0 nk1 nk2 nk3 nk4 nk5 nk6 nk7 nk8 nk9 : Nat) (a b : Int32) : Met l yX7_pupil wsX7_pupil ({ frames := 1, cells := 0, slots := 0, locals := 21 }) (va_Pc [.ref h0, .int a, .int b] (vx_B (dC, dI) (vx_T cI cC cZ) sz [(h0, .inr (5, [.ref now, .ref mind, .ref lts, .ref told, .ref rdr, .ref sea, .ref way, .ref ref, .ref ksc, .ref kle, .ref kto, .int 0])), (ref, .inl (cI, 7, .inl (fun _ => 0))), (now, .inr (2, [.int 0, .int 2, .int 1, .int 10, .int 0, .int 1, .ref nk0, .ref nk1, .ref nk2, .ref nk3, .ref nk4, .ref nk5, .ref nk6, .ref nk7, .ref nk8, .ref nk9]))])) (va_Qi (fun (r : Int32) (_ : Unit) => r = (-1)) (vx_C (dC, dI) (vx_T cI cC cZ) (va_A [(h0, .inr (5, [.ref now, .ref mind, .ref lts, .ref told, .ref rdr, .ref sea, .ref way, .ref ref, .ref ksc, .ref kle, .ref kto, .int 0])), (ref, .inl (cI, 7, .inl (fun _ => 0))), (now, .inr (2, [.int 0, .int 2, .int 1, .int 10, .int 0, .int 1, .ref nk0, .ref nk1, .ref nk2, .ref nk3, .ref nk4, .ref nk5, .ref nk6, .ref nk7, .ref nk8, .ref nk9]))] sz) (fun (u : Unit) => [])) (va_A [(h0, .inr (5, [.ref now, .ref mind, .ref lts, .ref told, .ref rdr, .ref sea, .ref way, .ref ref, .ref ksc, .ref kle, .ref kto, .int 0])), (ref, .inl (cI, 7, .inl (fun _ => 0))), (now, .inr (2, [.int 0, .int 2, .int 1, .int 10, .int 0, .int 1, .ref nk0, .ref nk1, .ref nk2, .ref nk3, .ref nk4, .ref nk5, .ref nk6, .ref nk7, .ref nk8, .ref nk9]))] sz)) 0 0 (va_A [(h0, .inr (5, [.ref now, .ref mind, .ref lts, .ref told, .ref rdr, .ref sea, .ref way, .ref ref, .ref ksc, .ref kle, .ref kto, .int 0])), (ref, .inl (cI, 7, .inl (fun _ => 0))), (now, .inr (2, [.int 0, .int 2, .int 1, .int 10, .int 0, .int 1, .ref nk0, .ref nk1, .ref nk2, .ref nk3, .ref nk4, .ref nk5, .ref nk6, .ref nk7, .ref nk8, .ref nk9]))] sz) := by
  refine Met.ofW (cc := cX7_pupil) (maxL := 3) (ret := (some .int)) (by decide) rfl ?_
  intro p e s m args below meth c s₁ B hml hv
  obtain ⟨rfl, hsz, hP, hK, hD0⟩ := hv
  have hx := B.exec
  have hb := B.bytes
  have hr := B.returns
  have hts := atoms_spec (ws := wsX7_pupil) B.pre
  have hown : s.vm.findClass RX7 = some m.cls := findClass_of_methodNamed B.named
  have hlocks := B.notSynchronized
  subst hsz
  have hD := hD0.self (sz := s.heap.size)
  generalize hAe : va_A [(h0, .inr (5, [.ref now, .ref mind, .ref lts, .ref told, .ref rdr, .ref sea, .ref way, .ref ref, .ref ksc, .ref kle, .ref kto, .int 0])), (ref, .inl (cI, 7, .inl (fun _ => 0))), (now, .inr (2, [.int 0, .int 2, .int 1, .int 10, .int 0, .int 1, .ref nk0, .ref nk1, .ref nk2, .ref nk3, .ref nk4, .ref nk5, .ref nk6, .ref nk7, .ref nk8, .ref nk9]))] s.heap.size = A at hD ⊢
  have hA : ∀ q : Nat, s.heap.size ≤ q → A q := fun q h => by rw [← hAe]; exact Or.inr h
  have hS : va_S A s.heap s.heap [] := va_S.rf
  have hl := lv_entry ([.ref h0, .int a, .int b]) (n := 3) (Nat.le_of_ble_eq_true rfl)
  rw [lg_entry_eq]
  generalize (lg_sl ([.ref h0, .int a, .int b]) ++ List.replicate (3 - (lg_sl ([.ref h0, .int a, .int b])).length) Slot.unset).toArray = ls at hl ⊢
  have hl : lv_has ls 3 [(0, .ref h0), (1, .int a), (2, .int b)] := hl
  have iX7 : ∀ w ∈ u_ws RX7 TX7 12, w ∈ wsX7_pupil := by decide +kernel
  refine lv_aload_n hx hb dX7_pupil_0 rfl (lv_at hl 0 rfl) ?_
  refine va_get (D := (dC, dI)) (ci := 5) (v := .ref now) (C := RX7) (T := TX7) (N := 12) hx hb hts iX7 hown hK hP 0 rfl rfl 0 (by decide) (hts (.fieldLink RX7 10 "NeighboursMark" "now" "LNeighboursMark$School;") (by decide +kernel)) (fun _ h9 => h9) rfl dX7_pupil_1 ?_
  refine lv_iload_n hx hb dX7_pupil_4 rfl (lv_at hl 1 rfl) ?_
  have hPc := hP.sub (ws' := [(now, .inr (2, [.int 0, .int 2, .int 1, .int 10, .int 0, .int 1, .ref nk0, .ref nk1, .ref nk2, .ref nk3, .ref nk4, .ref nk5, .ref nk6, .ref nk7, .ref nk8, .ref nk9]))]) [2] rfl
  have hDc := hD.sub (ws' := [(now, .inr (2, [.int 0, .int 2, .int 1, .int 10, .int 0, .int 1, .ref nk0, .ref nk1, .ref nk2, .ref nk3, .ref nk4, .ref nk5, .ref nk6, .ref nk7, .ref nk8, .ref nk9]))]) [2] (by decide) rfl
  refine vx_calli (wc := [(now, .inr (2, [.int 0, .int 2, .int 1, .int 10, .int 0, .int 1, .ref nk0, .ref nk1, .ref nk2, .ref nk3, .ref nk4, .ref nk5, .ref nk6, .ref nk7, .ref nk8, .ref nk9]))]) (wr := [(h0, .inr (5, [.ref now, .ref mind, .ref lts, .ref told, .ref rdr, .ref sea, .ref way, .ref ref, .ref ksc, .ref kle, .ref kto, .int 0])), (ref, .inl (cI, 7, .inl (fun _ => 0)))]) hP hD hS hA [2] [0, 1] rfl rfl (by decide) (by decide) (va_runV (As := [.int a]) (rest := []) ⟨hx, hb, hml, hown, hts⟩ (c_has l dC dI cI cC cZ _ now nk0 nk1 nk2 nk3 nk4 nk5 nk6 nk7 nk8 nk9 2 1 10 0 a) (cwV 1 hts gX7_pupil_X3_has rfl rfl rfl (by decide +kernel) ⟨Nat.le_of_ble_eq_true rfl, Nat.le_of_ble_eq_true rfl⟩) ⟨vx_blind, va_recv hK hPc (ci := 2) (q0 := 0) rfl rfl, vx_pre hK hPc hDc⟩ rfl rfl hl.1 rfl (lv_room (Nat.le_of_ble_eq_true rfl)) dX7_pupil_5 ⟨Nat.le_of_ble_eq_true rfl, Nat.le_of_ble_eq_true rfl⟩) (fun r2 u1 H locs hw3 hP hD hS => ?_)
  have hP : va_P (dC, dI) vwCl [(h0, .inr (5, [.ref now, .ref mind, .ref lts, .ref told, .ref rdr, .ref sea, .ref way, .ref ref, .ref ksc, .ref kle, .ref kto, .int 0])), (ref, .inl (cI, 7, .inl (fun _ => 0))), (now, .inr (2, [.int 0, .int 2, .int 1, .int 10, .int 0, .int 1, .ref nk0, .ref nk1, .ref nk2, .ref nk3, .ref nk4, .ref nk5, .ref nk6, .ref nk7, .ref nk8, .ref nk9]))] H := hP
  have hD : va_D A [(h0, .inr (5, [.ref now, .ref mind, .ref lts, .ref told, .ref rdr, .ref sea, .ref way, .ref ref, .ref ksc, .ref kle, .ref kto, .int 0])), (ref, .inl (cI, 7, .inl (fun _ => 0))), (now, .inr (2, [.int 0, .int 2, .int 1, .int 10, .int 0, .int 1, .ref nk0, .ref nk1, .ref nk2, .ref nk3, .ref nk4, .ref nk5, .ref nk6, .ref nk7, .ref nk8, .ref nk9]))] := hD
  have er2 : 0 = r2 := Eq.symm hw3
  subst er2
  refine lv_if_ne (tgt := 17) hx hb dX7_pupil_8 (by decide) (fun c0 => absurd (by decide) c0) (fun _ => ?_)
  refine lv_aload_n hx hb dX7_pupil_11 rfl (lv_at hl 0 rfl) ?_
  refine lv_iconst (v := (-1)) hx hb dX7_pupil_12 (by decide) ?_
  have hPc := hP.sub (ws' := [(h0, .inr (5, [.ref now, .ref mind, .ref lts, .ref told, .ref rdr, .ref sea, .ref way, .ref ref, .ref ksc, .ref kle, .ref kto, .int 0])), (ref, .inl (cI, 7, .inl (fun _ => 0)))]) [0, 1] rfl
  have hDc := hD.sub (ws' := [(h0, .inr (5, [.ref now, .ref mind, .ref lts, .ref told, .ref rdr, .ref sea, .ref way, .ref ref, .ref ksc, .ref kle, .ref kto, .int 0])), (ref, .inl (cI, 7, .inl (fun _ => 0)))]) [0, 1] (by decide) rfl
  refine vx_calli (wc := [(h0, .inr (5, [.ref now, .ref mind, .ref lts, .ref told, .ref rdr, .ref sea, .ref way, .ref ref, .ref ksc, .ref kle, .ref kto, .int 0])), (ref, .inl (cI, 7, .inl (fun _ => 0)))]) (wr := [(now, .inr (2, [.int 0, .int 2, .int 1, .int 10, .int 0, .int 1, .ref nk0, .ref nk1, .ref nk2, .ref nk3, .ref nk4, .ref nk5, .ref nk6, .ref nk7, .ref nk8, .ref nk9]))]) hP hD hS hA [0, 1] [2] rfl rfl (by decide) (by decide) (va_runV (As := [.int (-1)]) (rest := []) ⟨hx, hb, hml, hown, hts⟩ (c_refuse1 l dC dI cI cC cZ _ h0 now mind lts told rdr sea way ref ksc kle kto 0 0 (fun _ => 0) rfl) (cwV 1 hts gX7_pupil_X7_refuse rfl rfl rfl (by decide +kernel) ⟨Nat.le_of_ble_eq_true rfl, Nat.le_of_ble_eq_true rfl⟩) ⟨vx_blind, va_recv hK hPc (ci := 5) (q0 := 0) rfl rfl, vx_pre hK hPc hDc⟩ rfl rfl hl.1 rfl (lv_room (Nat.le_of_ble_eq_true rfl)) dX7_pupil_13 ⟨Nat.le_of_ble_eq_true rfl, Nat.le_of_ble_eq_true rfl⟩) (fun r5 u4 H locs hw6 hP hD hS => ?_)
  have hP : va_P (dC, dI) vwCl [(now, .inr (2, [.int 0, .int 2, .int 1, .int 10, .int 0, .int 1, .ref nk0, .ref nk1, .ref nk2, .ref nk3, .ref nk4, .ref nk5, .ref nk6, .ref nk7, .ref nk8, .ref nk9])), (h0, .inr (5, [.ref now, .ref mind, .ref lts, .ref told, .ref rdr, .ref sea, .ref way, .ref ref, .ref ksc, .ref kle, .ref kto, .int 0])), (ref, .inl (cI, 7, .inl (upd (fun _ => 0) 1 1)))] H := hP
  have hD : va_D A [(now, .inr (2, [.int 0, .int 2, .int 1, .int 10, .int 0, .int 1, .ref nk0, .ref nk1, .ref nk2, .ref nk3, .ref nk4, .ref nk5, .ref nk6, .ref nk7, .ref nk8, .ref nk9])), (h0, .inr (5, [.ref now, .ref mind, .ref lts, .ref told, .ref rdr, .ref sea, .ref way, .ref ref, .ref ksc, .ref kle, .ref kto, .int 0])), (ref, .inl (cI, 7, .inl (upd (fun _ => 0) 1 1)))] := hD
  have er5 : (-1) = r5 := Eq.symm hw6
  subst er5
  exact vx_iret (u := ()) hx hb hr hlocks hK hP hD hS [] rfl (by decide) rfl dX7_pupil_16
set_option maxHeartbeats 4000000 in
set_option maxRecDepth 100000 in
theorem t_sick (l : Launch) (dC : Nat → ClassId) (dI : Nat → Nat → Nat) (cI cC cZ : ClassId) (sz : Nat) (h0 now mind lts told rdr sea way ref ksc kle kto nk0 nk1 nk2 nk3 nk4 nk5 nk6 nk7 nk8 nk9 : Nat) (a b : Int32) : Met l yX7_sick wsX7_sick ({ frames := 1, cells := 0, slots := 0, locals := 21 }) (va_Pc [.ref h0, .int a, .int b] (vx_B (dC, dI) (vx_T cI cC cZ) sz [(h0, .inr (5, [.ref now, .ref mind, .ref lts, .ref told, .ref rdr, .ref sea, .ref way, .ref ref, .ref ksc, .ref kle, .ref kto, .int 0])), (ref, .inl (cI, 7, .inl (fun _ => 0))), (now, .inr (2, [.int 0, .int 2, .int 1, .int 10, .int 0, .int 1, .ref nk0, .ref nk1, .ref nk2, .ref nk3, .ref nk4, .ref nk5, .ref nk6, .ref nk7, .ref nk8, .ref nk9]))])) (va_Qi (fun (r : Int32) (_ : Unit) => r = (-1)) (vx_C (dC, dI) (vx_T cI cC cZ) (va_A [(h0, .inr (5, [.ref now, .ref mind, .ref lts, .ref told, .ref rdr, .ref sea, .ref way, .ref ref, .ref ksc, .ref kle, .ref kto, .int 0])), (ref, .inl (cI, 7, .inl (fun _ => 0))), (now, .inr (2, [.int 0, .int 2, .int 1, .int 10, .int 0, .int 1, .ref nk0, .ref nk1, .ref nk2, .ref nk3, .ref nk4, .ref nk5, .ref nk6, .ref nk7, .ref nk8, .ref nk9]))] sz) (fun (u : Unit) => [])) (va_A [(h0, .inr (5, [.ref now, .ref mind, .ref lts, .ref told, .ref rdr, .ref sea, .ref way, .ref ref, .ref ksc, .ref kle, .ref kto, .int 0])), (ref, .inl (cI, 7, .inl (fun _ => 0))), (now, .inr (2, [.int 0, .int 2, .int 1, .int 10, .int 0, .int 1, .ref nk0, .ref nk1, .ref nk2, .ref nk3, .ref nk4, .ref nk5, .ref nk6, .ref nk7, .ref nk8, .ref nk9]))] sz)) 0 0 (va_A [(h0, .inr (5, [.ref now, .ref mind, .ref lts, .ref told, .ref rdr, .ref sea, .ref way, .ref ref, .ref ksc, .ref kle, .ref kto, .int 0])), (ref, .inl (cI, 7, .inl (fun _ => 0))), (now, .inr (2, [.int 0, .int 2, .int 1, .int 10, .int 0, .int 1, .ref nk0, .ref nk1, .ref nk2, .ref nk3, .ref nk4, .ref nk5, .ref nk6, .ref nk7, .ref nk8, .ref nk9]))] sz) := by
  refine Met.ofW (cc := cX7_sick) (maxL := 4) (ret := (some .int)) (by decide) rfl ?_
  intro p e s m args below meth c s₁ B hml hv
  obtain ⟨rfl, hsz, hP, hK, hD0⟩ := hv
  have hx := B.exec
  have hb := B.bytes
  have hr := B.returns
  have hts := atoms_spec (ws := wsX7_sick) B.pre
  have hown : s.vm.findClass RX7 = some m.cls := findClass_of_methodNamed B.named
  have hlocks := B.notSynchronized
  subst hsz
  have hD := hD0.self (sz := s.heap.size)
  generalize hAe : va_A [(h0, .inr (5, [.ref now, .ref mind, .ref lts, .ref told, .ref rdr, .ref sea, .ref way, .ref ref, .ref ksc, .ref kle, .ref kto, .int 0])), (ref, .inl (cI, 7, .inl (fun _ => 0))), (now, .inr (2, [.int 0, .int 2, .int 1, .int 10, .int 0, .int 1, .ref nk0, .ref nk1, .ref nk2, .ref nk3, .ref nk4, .ref nk5, .ref nk6, .ref nk7, .ref nk8, .ref nk9]))] s.heap.size = A at hD ⊢
  have hA : ∀ q : Nat, s.heap.size ≤ q → A q := fun q h => by rw [← hAe]; exact Or.inr h
  have hS : va_S A s.heap s.heap [] := va_S.rf
  have hl := lv_entry ([.ref h0, .int a, .int b]) (n := 4) (Nat.le_of_ble_eq_true rfl)
  rw [lg_entry_eq]
  generalize (lg_sl ([.ref h0, .int a, .int b]) ++ List.replicate (4 - (lg_sl ([.ref h0, .int a, .int b])).length) Slot.unset).toArray = ls at hl ⊢
  have hl : lv_has ls 4 [(0, .ref h0), (1, .int a), (2, .int b)] := hl
  have iX7 : ∀ w ∈ u_ws RX7 TX7 12, w ∈ wsX7_sick := by decide +kernel
  refine lv_aload_n hx hb dX7_sick_0 rfl (lv_at hl 0 rfl) ?_
  refine va_get (D := (dC, dI)) (ci := 5) (v := .ref now) (C := RX7) (T := TX7) (N := 12) hx hb hts iX7 hown hK hP 0 rfl rfl 0 (by decide) (hts (.fieldLink RX7 10 "NeighboursMark" "now" "LNeighboursMark$School;") (by decide +kernel)) (fun _ h9 => h9) rfl dX7_sick_1 ?_
  refine lv_iload_n hx hb dX7_sick_4 rfl (lv_at hl 1 rfl) ?_
  have hPc := hP.sub (ws' := [(now, .inr (2, [.int 0, .int 2, .int 1, .int 10, .int 0, .int 1, .ref nk0, .ref nk1, .ref nk2, .ref nk3, .ref nk4, .ref nk5, .ref nk6, .ref nk7, .ref nk8, .ref nk9]))]) [2] rfl
  have hDc := hD.sub (ws' := [(now, .inr (2, [.int 0, .int 2, .int 1, .int 10, .int 0, .int 1, .ref nk0, .ref nk1, .ref nk2, .ref nk3, .ref nk4, .ref nk5, .ref nk6, .ref nk7, .ref nk8, .ref nk9]))]) [2] (by decide) rfl
  refine vx_calli (wc := [(now, .inr (2, [.int 0, .int 2, .int 1, .int 10, .int 0, .int 1, .ref nk0, .ref nk1, .ref nk2, .ref nk3, .ref nk4, .ref nk5, .ref nk6, .ref nk7, .ref nk8, .ref nk9]))]) (wr := [(h0, .inr (5, [.ref now, .ref mind, .ref lts, .ref told, .ref rdr, .ref sea, .ref way, .ref ref, .ref ksc, .ref kle, .ref kto, .int 0])), (ref, .inl (cI, 7, .inl (fun _ => 0)))]) hP hD hS hA [2] [0, 1] rfl rfl (by decide) (by decide) (va_runV (As := [.int a]) (rest := []) ⟨hx, hb, hml, hown, hts⟩ (c_has l dC dI cI cC cZ _ now nk0 nk1 nk2 nk3 nk4 nk5 nk6 nk7 nk8 nk9 2 1 10 0 a) (cwV 1 hts gX7_sick_X3_has rfl rfl rfl (by decide +kernel) ⟨Nat.le_of_ble_eq_true rfl, Nat.le_of_ble_eq_true rfl⟩) ⟨vx_blind, va_recv hK hPc (ci := 2) (q0 := 0) rfl rfl, vx_pre hK hPc hDc⟩ rfl rfl hl.1 rfl (lv_room (Nat.le_of_ble_eq_true rfl)) dX7_sick_5 ⟨Nat.le_of_ble_eq_true rfl, Nat.le_of_ble_eq_true rfl⟩) (fun r2 u1 H locs hw3 hP hD hS => ?_)
  have hP : va_P (dC, dI) vwCl [(h0, .inr (5, [.ref now, .ref mind, .ref lts, .ref told, .ref rdr, .ref sea, .ref way, .ref ref, .ref ksc, .ref kle, .ref kto, .int 0])), (ref, .inl (cI, 7, .inl (fun _ => 0))), (now, .inr (2, [.int 0, .int 2, .int 1, .int 10, .int 0, .int 1, .ref nk0, .ref nk1, .ref nk2, .ref nk3, .ref nk4, .ref nk5, .ref nk6, .ref nk7, .ref nk8, .ref nk9]))] H := hP
  have hD : va_D A [(h0, .inr (5, [.ref now, .ref mind, .ref lts, .ref told, .ref rdr, .ref sea, .ref way, .ref ref, .ref ksc, .ref kle, .ref kto, .int 0])), (ref, .inl (cI, 7, .inl (fun _ => 0))), (now, .inr (2, [.int 0, .int 2, .int 1, .int 10, .int 0, .int 1, .ref nk0, .ref nk1, .ref nk2, .ref nk3, .ref nk4, .ref nk5, .ref nk6, .ref nk7, .ref nk8, .ref nk9]))] := hD
  have er2 : 0 = r2 := Eq.symm hw3
  subst er2
  refine lv_if_ne (tgt := 17) hx hb dX7_sick_8 (by decide) (fun c0 => absurd (by decide) c0) (fun _ => ?_)
  refine lv_aload_n hx hb dX7_sick_11 rfl (lv_at hl 0 rfl) ?_
  refine lv_iconst (v := (-1)) hx hb dX7_sick_12 (by decide) ?_
  have hPc := hP.sub (ws' := [(h0, .inr (5, [.ref now, .ref mind, .ref lts, .ref told, .ref rdr, .ref sea, .ref way, .ref ref, .ref ksc, .ref kle, .ref kto, .int 0])), (ref, .inl (cI, 7, .inl (fun _ => 0)))]) [0, 1] rfl
  have hDc := hD.sub (ws' := [(h0, .inr (5, [.ref now, .ref mind, .ref lts, .ref told, .ref rdr, .ref sea, .ref way, .ref ref, .ref ksc, .ref kle, .ref kto, .int 0])), (ref, .inl (cI, 7, .inl (fun _ => 0)))]) [0, 1] (by decide) rfl
  refine vx_calli (wc := [(h0, .inr (5, [.ref now, .ref mind, .ref lts, .ref told, .ref rdr, .ref sea, .ref way, .ref ref, .ref ksc, .ref kle, .ref kto, .int 0])), (ref, .inl (cI, 7, .inl (fun _ => 0)))]) (wr := [(now, .inr (2, [.int 0, .int 2, .int 1, .int 10, .int 0, .int 1, .ref nk0, .ref nk1, .ref nk2, .ref nk3, .ref nk4, .ref nk5, .ref nk6, .ref nk7, .ref nk8, .ref nk9]))]) hP hD hS hA [0, 1] [2] rfl rfl (by decide) (by decide) (va_runV (As := [.int (-1)]) (rest := []) ⟨hx, hb, hml, hown, hts⟩ (c_refuse1 l dC dI cI cC cZ _ h0 now mind lts told rdr sea way ref ksc kle kto 0 0 (fun _ => 0) rfl) (cwV 1 hts gX7_sick_X7_refuse rfl rfl rfl (by decide +kernel) ⟨Nat.le_of_ble_eq_true rfl, Nat.le_of_ble_eq_true rfl⟩) ⟨vx_blind, va_recv hK hPc (ci := 5) (q0 := 0) rfl rfl, vx_pre hK hPc hDc⟩ rfl rfl hl.1 rfl (lv_room (Nat.le_of_ble_eq_true rfl)) dX7_sick_13 ⟨Nat.le_of_ble_eq_true rfl, Nat.le_of_ble_eq_true rfl⟩) (fun r5 u4 H locs hw6 hP hD hS => ?_)
  have hP : va_P (dC, dI) vwCl [(now, .inr (2, [.int 0, .int 2, .int 1, .int 10, .int 0, .int 1, .ref nk0, .ref nk1, .ref nk2, .ref nk3, .ref nk4, .ref nk5, .ref nk6, .ref nk7, .ref nk8, .ref nk9])), (h0, .inr (5, [.ref now, .ref mind, .ref lts, .ref told, .ref rdr, .ref sea, .ref way, .ref ref, .ref ksc, .ref kle, .ref kto, .int 0])), (ref, .inl (cI, 7, .inl (upd (fun _ => 0) 1 1)))] H := hP
  have hD : va_D A [(now, .inr (2, [.int 0, .int 2, .int 1, .int 10, .int 0, .int 1, .ref nk0, .ref nk1, .ref nk2, .ref nk3, .ref nk4, .ref nk5, .ref nk6, .ref nk7, .ref nk8, .ref nk9])), (h0, .inr (5, [.ref now, .ref mind, .ref lts, .ref told, .ref rdr, .ref sea, .ref way, .ref ref, .ref ksc, .ref kle, .ref kto, .int 0])), (ref, .inl (cI, 7, .inl (upd (fun _ => 0) 1 1)))] := hD
  have er5 : (-1) = r5 := Eq.symm hw6
  subst er5
  exact vx_iret (u := ()) hx hb hr hlocks hK hP hD hS [] rfl (by decide) rfl dX7_sick_16
set_option maxHeartbeats 4000000 in
set_option maxRecDepth 100000 in
theorem t_learn (l : Launch) (dC : Nat → ClassId) (dI : Nat → Nat → Nat) (cI cC cZ : ClassId) (sz : Nat) (h0 now mind lts told rdr sea way ref ksc kle kto nk0 nk1 nk2 nk3 nk4 nk5 nk6 nk7 nk8 nk9 : Nat) (a b : Int32) : Met l yX7_learn wsX7_learn ({ frames := 1, cells := 0, slots := 0, locals := 21 }) (va_Pc [.ref h0, .int a, .int b] (vx_B (dC, dI) (vx_T cI cC cZ) sz [(h0, .inr (5, [.ref now, .ref mind, .ref lts, .ref told, .ref rdr, .ref sea, .ref way, .ref ref, .ref ksc, .ref kle, .ref kto, .int 0])), (ref, .inl (cI, 7, .inl (fun _ => 0))), (now, .inr (2, [.int 0, .int 2, .int 1, .int 10, .int 0, .int 1, .ref nk0, .ref nk1, .ref nk2, .ref nk3, .ref nk4, .ref nk5, .ref nk6, .ref nk7, .ref nk8, .ref nk9]))])) (va_Qi (fun (r : Int32) (_ : Unit) => r = (-1)) (vx_C (dC, dI) (vx_T cI cC cZ) (va_A [(h0, .inr (5, [.ref now, .ref mind, .ref lts, .ref told, .ref rdr, .ref sea, .ref way, .ref ref, .ref ksc, .ref kle, .ref kto, .int 0])), (ref, .inl (cI, 7, .inl (fun _ => 0))), (now, .inr (2, [.int 0, .int 2, .int 1, .int 10, .int 0, .int 1, .ref nk0, .ref nk1, .ref nk2, .ref nk3, .ref nk4, .ref nk5, .ref nk6, .ref nk7, .ref nk8, .ref nk9]))] sz) (fun (u : Unit) => [])) (va_A [(h0, .inr (5, [.ref now, .ref mind, .ref lts, .ref told, .ref rdr, .ref sea, .ref way, .ref ref, .ref ksc, .ref kle, .ref kto, .int 0])), (ref, .inl (cI, 7, .inl (fun _ => 0))), (now, .inr (2, [.int 0, .int 2, .int 1, .int 10, .int 0, .int 1, .ref nk0, .ref nk1, .ref nk2, .ref nk3, .ref nk4, .ref nk5, .ref nk6, .ref nk7, .ref nk8, .ref nk9]))] sz)) 0 0 (va_A [(h0, .inr (5, [.ref now, .ref mind, .ref lts, .ref told, .ref rdr, .ref sea, .ref way, .ref ref, .ref ksc, .ref kle, .ref kto, .int 0])), (ref, .inl (cI, 7, .inl (fun _ => 0))), (now, .inr (2, [.int 0, .int 2, .int 1, .int 10, .int 0, .int 1, .ref nk0, .ref nk1, .ref nk2, .ref nk3, .ref nk4, .ref nk5, .ref nk6, .ref nk7, .ref nk8, .ref nk9]))] sz) := by
  refine Met.ofW (cc := cX7_learn) (maxL := 4) (ret := (some .int)) (by decide) rfl ?_
  intro p e s m args below meth c s₁ B hml hv
  obtain ⟨rfl, hsz, hP, hK, hD0⟩ := hv
  have hx := B.exec
  have hb := B.bytes
  have hr := B.returns
  have hts := atoms_spec (ws := wsX7_learn) B.pre
  have hown : s.vm.findClass RX7 = some m.cls := findClass_of_methodNamed B.named
  have hlocks := B.notSynchronized
  subst hsz
  have hD := hD0.self (sz := s.heap.size)
  generalize hAe : va_A [(h0, .inr (5, [.ref now, .ref mind, .ref lts, .ref told, .ref rdr, .ref sea, .ref way, .ref ref, .ref ksc, .ref kle, .ref kto, .int 0])), (ref, .inl (cI, 7, .inl (fun _ => 0))), (now, .inr (2, [.int 0, .int 2, .int 1, .int 10, .int 0, .int 1, .ref nk0, .ref nk1, .ref nk2, .ref nk3, .ref nk4, .ref nk5, .ref nk6, .ref nk7, .ref nk8, .ref nk9]))] s.heap.size = A at hD ⊢
  have hA : ∀ q : Nat, s.heap.size ≤ q → A q := fun q h => by rw [← hAe]; exact Or.inr h
  have hS : va_S A s.heap s.heap [] := va_S.rf
  have hl := lv_entry ([.ref h0, .int a, .int b]) (n := 4) (Nat.le_of_ble_eq_true rfl)
  rw [lg_entry_eq]
  generalize (lg_sl ([.ref h0, .int a, .int b]) ++ List.replicate (4 - (lg_sl ([.ref h0, .int a, .int b])).length) Slot.unset).toArray = ls at hl ⊢
  have hl : lv_has ls 4 [(0, .ref h0), (1, .int a), (2, .int b)] := hl
  have iX7 : ∀ w ∈ u_ws RX7 TX7 12, w ∈ wsX7_learn := by decide +kernel
  refine lv_aload_n hx hb dX7_learn_0 rfl (lv_at hl 0 rfl) ?_
  refine va_get (D := (dC, dI)) (ci := 5) (v := .ref now) (C := RX7) (T := TX7) (N := 12) hx hb hts iX7 hown hK hP 0 rfl rfl 0 (by decide) (hts (.fieldLink RX7 10 "NeighboursMark" "now" "LNeighboursMark$School;") (by decide +kernel)) (fun _ h9 => h9) rfl dX7_learn_1 ?_
  refine lv_iload_n hx hb dX7_learn_4 rfl (lv_at hl 1 rfl) ?_
  have hPc := hP.sub (ws' := [(now, .inr (2, [.int 0, .int 2, .int 1, .int 10, .int 0, .int 1, .ref nk0, .ref nk1, .ref nk2, .ref nk3, .ref nk4, .ref nk5, .ref nk6, .ref nk7, .ref nk8, .ref nk9]))]) [2] rfl
  have hDc := hD.sub (ws' := [(now, .inr (2, [.int 0, .int 2, .int 1, .int 10, .int 0, .int 1, .ref nk0, .ref nk1, .ref nk2, .ref nk3, .ref nk4, .ref nk5, .ref nk6, .ref nk7, .ref nk8, .ref nk9]))]) [2] (by decide) rfl
  refine vx_calli (wc := [(now, .inr (2, [.int 0, .int 2, .int 1, .int 10, .int 0, .int 1, .ref nk0, .ref nk1, .ref nk2, .ref nk3, .ref nk4, .ref nk5, .ref nk6, .ref nk7, .ref nk8, .ref nk9]))]) (wr := [(h0, .inr (5, [.ref now, .ref mind, .ref lts, .ref told, .ref rdr, .ref sea, .ref way, .ref ref, .ref ksc, .ref kle, .ref kto, .int 0])), (ref, .inl (cI, 7, .inl (fun _ => 0)))]) hP hD hS hA [2] [0, 1] rfl rfl (by decide) (by decide) (va_runV (As := [.int a]) (rest := []) ⟨hx, hb, hml, hown, hts⟩ (c_has l dC dI cI cC cZ _ now nk0 nk1 nk2 nk3 nk4 nk5 nk6 nk7 nk8 nk9 2 1 10 0 a) (cwV 1 hts gX7_learn_X3_has rfl rfl rfl (by decide +kernel) ⟨Nat.le_of_ble_eq_true rfl, Nat.le_of_ble_eq_true rfl⟩) ⟨vx_blind, va_recv hK hPc (ci := 2) (q0 := 0) rfl rfl, vx_pre hK hPc hDc⟩ rfl rfl hl.1 rfl (lv_room (Nat.le_of_ble_eq_true rfl)) dX7_learn_5 ⟨Nat.le_of_ble_eq_true rfl, Nat.le_of_ble_eq_true rfl⟩) (fun r2 u1 H locs hw3 hP hD hS => ?_)
  have hP : va_P (dC, dI) vwCl [(h0, .inr (5, [.ref now, .ref mind, .ref lts, .ref told, .ref rdr, .ref sea, .ref way, .ref ref, .ref ksc, .ref kle, .ref kto, .int 0])), (ref, .inl (cI, 7, .inl (fun _ => 0))), (now, .inr (2, [.int 0, .int 2, .int 1, .int 10, .int 0, .int 1, .ref nk0, .ref nk1, .ref nk2, .ref nk3, .ref nk4, .ref nk5, .ref nk6, .ref nk7, .ref nk8, .ref nk9]))] H := hP
  have hD : va_D A [(h0, .inr (5, [.ref now, .ref mind, .ref lts, .ref told, .ref rdr, .ref sea, .ref way, .ref ref, .ref ksc, .ref kle, .ref kto, .int 0])), (ref, .inl (cI, 7, .inl (fun _ => 0))), (now, .inr (2, [.int 0, .int 2, .int 1, .int 10, .int 0, .int 1, .ref nk0, .ref nk1, .ref nk2, .ref nk3, .ref nk4, .ref nk5, .ref nk6, .ref nk7, .ref nk8, .ref nk9]))] := hD
  have er2 : 0 = r2 := Eq.symm hw3
  subst er2
  refine lv_if_ne (tgt := 17) hx hb dX7_learn_8 (by decide) (fun c0 => absurd (by decide) c0) (fun _ => ?_)
  refine lv_aload_n hx hb dX7_learn_11 rfl (lv_at hl 0 rfl) ?_
  refine lv_iconst (v := (-1)) hx hb dX7_learn_12 (by decide) ?_
  have hPc := hP.sub (ws' := [(h0, .inr (5, [.ref now, .ref mind, .ref lts, .ref told, .ref rdr, .ref sea, .ref way, .ref ref, .ref ksc, .ref kle, .ref kto, .int 0])), (ref, .inl (cI, 7, .inl (fun _ => 0)))]) [0, 1] rfl
  have hDc := hD.sub (ws' := [(h0, .inr (5, [.ref now, .ref mind, .ref lts, .ref told, .ref rdr, .ref sea, .ref way, .ref ref, .ref ksc, .ref kle, .ref kto, .int 0])), (ref, .inl (cI, 7, .inl (fun _ => 0)))]) [0, 1] (by decide) rfl
  refine vx_calli (wc := [(h0, .inr (5, [.ref now, .ref mind, .ref lts, .ref told, .ref rdr, .ref sea, .ref way, .ref ref, .ref ksc, .ref kle, .ref kto, .int 0])), (ref, .inl (cI, 7, .inl (fun _ => 0)))]) (wr := [(now, .inr (2, [.int 0, .int 2, .int 1, .int 10, .int 0, .int 1, .ref nk0, .ref nk1, .ref nk2, .ref nk3, .ref nk4, .ref nk5, .ref nk6, .ref nk7, .ref nk8, .ref nk9]))]) hP hD hS hA [0, 1] [2] rfl rfl (by decide) (by decide) (va_runV (As := [.int (-1)]) (rest := []) ⟨hx, hb, hml, hown, hts⟩ (c_refuse1 l dC dI cI cC cZ _ h0 now mind lts told rdr sea way ref ksc kle kto 0 0 (fun _ => 0) rfl) (cwV 1 hts gX7_learn_X7_refuse rfl rfl rfl (by decide +kernel) ⟨Nat.le_of_ble_eq_true rfl, Nat.le_of_ble_eq_true rfl⟩) ⟨vx_blind, va_recv hK hPc (ci := 5) (q0 := 0) rfl rfl, vx_pre hK hPc hDc⟩ rfl rfl hl.1 rfl (lv_room (Nat.le_of_ble_eq_true rfl)) dX7_learn_13 ⟨Nat.le_of_ble_eq_true rfl, Nat.le_of_ble_eq_true rfl⟩) (fun r5 u4 H locs hw6 hP hD hS => ?_)
  have hP : va_P (dC, dI) vwCl [(now, .inr (2, [.int 0, .int 2, .int 1, .int 10, .int 0, .int 1, .ref nk0, .ref nk1, .ref nk2, .ref nk3, .ref nk4, .ref nk5, .ref nk6, .ref nk7, .ref nk8, .ref nk9])), (h0, .inr (5, [.ref now, .ref mind, .ref lts, .ref told, .ref rdr, .ref sea, .ref way, .ref ref, .ref ksc, .ref kle, .ref kto, .int 0])), (ref, .inl (cI, 7, .inl (upd (fun _ => 0) 1 1)))] H := hP
  have hD : va_D A [(now, .inr (2, [.int 0, .int 2, .int 1, .int 10, .int 0, .int 1, .ref nk0, .ref nk1, .ref nk2, .ref nk3, .ref nk4, .ref nk5, .ref nk6, .ref nk7, .ref nk8, .ref nk9])), (h0, .inr (5, [.ref now, .ref mind, .ref lts, .ref told, .ref rdr, .ref sea, .ref way, .ref ref, .ref ksc, .ref kle, .ref kto, .int 0])), (ref, .inl (cI, 7, .inl (upd (fun _ => 0) 1 1)))] := hD
  have er5 : (-1) = r5 := Eq.symm hw6
  subst er5
  exact vx_iret (u := ()) hx hb hr hlocks hK hP hD hS [] rfl (by decide) rfl dX7_learn_16
set_option maxHeartbeats 4000000 in
set_option maxRecDepth 100000 in
theorem t_swap (l : Launch) (dC : Nat → ClassId) (dI : Nat → Nat → Nat) (cI cC cZ : ClassId) (sz : Nat) (h0 now mind lts told rdr sea way ref ksc kle kto nk0 nk1 nk2 nk3 nk4 nk5 nk6 nk7 nk8 nk9 : Nat) (a b : Int32) : Met l yX7_swap wsX7_swap ({ frames := 1, cells := 0, slots := 0, locals := 21 }) (va_Pc [.ref h0, .int a, .int b] (vx_B (dC, dI) (vx_T cI cC cZ) sz [(h0, .inr (5, [.ref now, .ref mind, .ref lts, .ref told, .ref rdr, .ref sea, .ref way, .ref ref, .ref ksc, .ref kle, .ref kto, .int 0])), (ref, .inl (cI, 7, .inl (fun _ => 0))), (now, .inr (2, [.int 0, .int 2, .int 1, .int 10, .int 0, .int 1, .ref nk0, .ref nk1, .ref nk2, .ref nk3, .ref nk4, .ref nk5, .ref nk6, .ref nk7, .ref nk8, .ref nk9]))])) (va_Qi (fun (r : Int32) (_ : Unit) => r = (-1)) (vx_C (dC, dI) (vx_T cI cC cZ) (va_A [(h0, .inr (5, [.ref now, .ref mind, .ref lts, .ref told, .ref rdr, .ref sea, .ref way, .ref ref, .ref ksc, .ref kle, .ref kto, .int 0])), (ref, .inl (cI, 7, .inl (fun _ => 0))), (now, .inr (2, [.int 0, .int 2, .int 1, .int 10, .int 0, .int 1, .ref nk0, .ref nk1, .ref nk2, .ref nk3, .ref nk4, .ref nk5, .ref nk6, .ref nk7, .ref nk8, .ref nk9]))] sz) (fun (u : Unit) => [])) (va_A [(h0, .inr (5, [.ref now, .ref mind, .ref lts, .ref told, .ref rdr, .ref sea, .ref way, .ref ref, .ref ksc, .ref kle, .ref kto, .int 0])), (ref, .inl (cI, 7, .inl (fun _ => 0))), (now, .inr (2, [.int 0, .int 2, .int 1, .int 10, .int 0, .int 1, .ref nk0, .ref nk1, .ref nk2, .ref nk3, .ref nk4, .ref nk5, .ref nk6, .ref nk7, .ref nk8, .ref nk9]))] sz)) 0 0 (va_A [(h0, .inr (5, [.ref now, .ref mind, .ref lts, .ref told, .ref rdr, .ref sea, .ref way, .ref ref, .ref ksc, .ref kle, .ref kto, .int 0])), (ref, .inl (cI, 7, .inl (fun _ => 0))), (now, .inr (2, [.int 0, .int 2, .int 1, .int 10, .int 0, .int 1, .ref nk0, .ref nk1, .ref nk2, .ref nk3, .ref nk4, .ref nk5, .ref nk6, .ref nk7, .ref nk8, .ref nk9]))] sz) := by
  refine Met.ofW (cc := cX7_swap) (maxL := 3) (ret := (some .int)) (by decide) rfl ?_
  intro p e s m args below meth c s₁ B hml hv
  obtain ⟨rfl, hsz, hP, hK, hD0⟩ := hv
  have hx := B.exec
  have hb := B.bytes
  have hr := B.returns
  have hts := atoms_spec (ws := wsX7_swap) B.pre
  have hown : s.vm.findClass RX7 = some m.cls := findClass_of_methodNamed B.named
  have hlocks := B.notSynchronized
  subst hsz
  have hD := hD0.self (sz := s.heap.size)
  generalize hAe : va_A [(h0, .inr (5, [.ref now, .ref mind, .ref lts, .ref told, .ref rdr, .ref sea, .ref way, .ref ref, .ref ksc, .ref kle, .ref kto, .int 0])), (ref, .inl (cI, 7, .inl (fun _ => 0))), (now, .inr (2, [.int 0, .int 2, .int 1, .int 10, .int 0, .int 1, .ref nk0, .ref nk1, .ref nk2, .ref nk3, .ref nk4, .ref nk5, .ref nk6, .ref nk7, .ref nk8, .ref nk9]))] s.heap.size = A at hD ⊢
  have hA : ∀ q : Nat, s.heap.size ≤ q → A q := fun q h => by rw [← hAe]; exact Or.inr h
  have hS : va_S A s.heap s.heap [] := va_S.rf
  have hl := lv_entry ([.ref h0, .int a, .int b]) (n := 3) (Nat.le_of_ble_eq_true rfl)
  rw [lg_entry_eq]
  generalize (lg_sl ([.ref h0, .int a, .int b]) ++ List.replicate (3 - (lg_sl ([.ref h0, .int a, .int b])).length) Slot.unset).toArray = ls at hl ⊢
  have hl : lv_has ls 3 [(0, .ref h0), (1, .int a), (2, .int b)] := hl
  have iX7 : ∀ w ∈ u_ws RX7 TX7 12, w ∈ wsX7_swap := by decide +kernel
  refine lv_aload_n hx hb dX7_swap_0 rfl (lv_at hl 0 rfl) ?_
  refine va_get (D := (dC, dI)) (ci := 5) (v := .ref now) (C := RX7) (T := TX7) (N := 12) hx hb hts iX7 hown hK hP 0 rfl rfl 0 (by decide) (hts (.fieldLink RX7 10 "NeighboursMark" "now" "LNeighboursMark$School;") (by decide +kernel)) (fun _ h9 => h9) rfl dX7_swap_1 ?_
  refine lv_iload_n hx hb dX7_swap_4 rfl (lv_at hl 1 rfl) ?_
  have hPc := hP.sub (ws' := [(now, .inr (2, [.int 0, .int 2, .int 1, .int 10, .int 0, .int 1, .ref nk0, .ref nk1, .ref nk2, .ref nk3, .ref nk4, .ref nk5, .ref nk6, .ref nk7, .ref nk8, .ref nk9]))]) [2] rfl
  have hDc := hD.sub (ws' := [(now, .inr (2, [.int 0, .int 2, .int 1, .int 10, .int 0, .int 1, .ref nk0, .ref nk1, .ref nk2, .ref nk3, .ref nk4, .ref nk5, .ref nk6, .ref nk7, .ref nk8, .ref nk9]))]) [2] (by decide) rfl
  refine vx_calli (wc := [(now, .inr (2, [.int 0, .int 2, .int 1, .int 10, .int 0, .int 1, .ref nk0, .ref nk1, .ref nk2, .ref nk3, .ref nk4, .ref nk5, .ref nk6, .ref nk7, .ref nk8, .ref nk9]))]) (wr := [(h0, .inr (5, [.ref now, .ref mind, .ref lts, .ref told, .ref rdr, .ref sea, .ref way, .ref ref, .ref ksc, .ref kle, .ref kto, .int 0])), (ref, .inl (cI, 7, .inl (fun _ => 0)))]) hP hD hS hA [2] [0, 1] rfl rfl (by decide) (by decide) (va_runV (As := [.int a]) (rest := []) ⟨hx, hb, hml, hown, hts⟩ (c_has l dC dI cI cC cZ _ now nk0 nk1 nk2 nk3 nk4 nk5 nk6 nk7 nk8 nk9 2 1 10 0 a) (cwV 1 hts gX7_swap_X3_has rfl rfl rfl (by decide +kernel) ⟨Nat.le_of_ble_eq_true rfl, Nat.le_of_ble_eq_true rfl⟩) ⟨vx_blind, va_recv hK hPc (ci := 2) (q0 := 0) rfl rfl, vx_pre hK hPc hDc⟩ rfl rfl hl.1 rfl (lv_room (Nat.le_of_ble_eq_true rfl)) dX7_swap_5 ⟨Nat.le_of_ble_eq_true rfl, Nat.le_of_ble_eq_true rfl⟩) (fun r2 u1 H locs hw3 hP hD hS => ?_)
  have hP : va_P (dC, dI) vwCl [(h0, .inr (5, [.ref now, .ref mind, .ref lts, .ref told, .ref rdr, .ref sea, .ref way, .ref ref, .ref ksc, .ref kle, .ref kto, .int 0])), (ref, .inl (cI, 7, .inl (fun _ => 0))), (now, .inr (2, [.int 0, .int 2, .int 1, .int 10, .int 0, .int 1, .ref nk0, .ref nk1, .ref nk2, .ref nk3, .ref nk4, .ref nk5, .ref nk6, .ref nk7, .ref nk8, .ref nk9]))] H := hP
  have hD : va_D A [(h0, .inr (5, [.ref now, .ref mind, .ref lts, .ref told, .ref rdr, .ref sea, .ref way, .ref ref, .ref ksc, .ref kle, .ref kto, .int 0])), (ref, .inl (cI, 7, .inl (fun _ => 0))), (now, .inr (2, [.int 0, .int 2, .int 1, .int 10, .int 0, .int 1, .ref nk0, .ref nk1, .ref nk2, .ref nk3, .ref nk4, .ref nk5, .ref nk6, .ref nk7, .ref nk8, .ref nk9]))] := hD
  have er2 : 0 = r2 := Eq.symm hw3
  subst er2
  refine lv_if_eq (tgt := 27) hx hb dX7_swap_8 (by decide) (fun _ => ?_) (fun c0 => absurd (by decide) c0)
  refine lv_aload_n hx hb dX7_swap_27 rfl (lv_at hl 0 rfl) ?_
  refine lv_iconst (v := (-1)) hx hb dX7_swap_28 (by decide) ?_
  have hPc := hP.sub (ws' := [(h0, .inr (5, [.ref now, .ref mind, .ref lts, .ref told, .ref rdr, .ref sea, .ref way, .ref ref, .ref ksc, .ref kle, .ref kto, .int 0])), (ref, .inl (cI, 7, .inl (fun _ => 0)))]) [0, 1] rfl
  have hDc := hD.sub (ws' := [(h0, .inr (5, [.ref now, .ref mind, .ref lts, .ref told, .ref rdr, .ref sea, .ref way, .ref ref, .ref ksc, .ref kle, .ref kto, .int 0])), (ref, .inl (cI, 7, .inl (fun _ => 0)))]) [0, 1] (by decide) rfl
  refine vx_calli (wc := [(h0, .inr (5, [.ref now, .ref mind, .ref lts, .ref told, .ref rdr, .ref sea, .ref way, .ref ref, .ref ksc, .ref kle, .ref kto, .int 0])), (ref, .inl (cI, 7, .inl (fun _ => 0)))]) (wr := [(now, .inr (2, [.int 0, .int 2, .int 1, .int 10, .int 0, .int 1, .ref nk0, .ref nk1, .ref nk2, .ref nk3, .ref nk4, .ref nk5, .ref nk6, .ref nk7, .ref nk8, .ref nk9]))]) hP hD hS hA [0, 1] [2] rfl rfl (by decide) (by decide) (va_runV (As := [.int (-1)]) (rest := []) ⟨hx, hb, hml, hown, hts⟩ (c_refuse1 l dC dI cI cC cZ _ h0 now mind lts told rdr sea way ref ksc kle kto 0 0 (fun _ => 0) rfl) (cwV 1 hts gX7_swap_X7_refuse rfl rfl rfl (by decide +kernel) ⟨Nat.le_of_ble_eq_true rfl, Nat.le_of_ble_eq_true rfl⟩) ⟨vx_blind, va_recv hK hPc (ci := 5) (q0 := 0) rfl rfl, vx_pre hK hPc hDc⟩ rfl rfl hl.1 rfl (lv_room (Nat.le_of_ble_eq_true rfl)) dX7_swap_29 ⟨Nat.le_of_ble_eq_true rfl, Nat.le_of_ble_eq_true rfl⟩) (fun r5 u4 H locs hw6 hP hD hS => ?_)
  have hP : va_P (dC, dI) vwCl [(now, .inr (2, [.int 0, .int 2, .int 1, .int 10, .int 0, .int 1, .ref nk0, .ref nk1, .ref nk2, .ref nk3, .ref nk4, .ref nk5, .ref nk6, .ref nk7, .ref nk8, .ref nk9])), (h0, .inr (5, [.ref now, .ref mind, .ref lts, .ref told, .ref rdr, .ref sea, .ref way, .ref ref, .ref ksc, .ref kle, .ref kto, .int 0])), (ref, .inl (cI, 7, .inl (upd (fun _ => 0) 1 1)))] H := hP
  have hD : va_D A [(now, .inr (2, [.int 0, .int 2, .int 1, .int 10, .int 0, .int 1, .ref nk0, .ref nk1, .ref nk2, .ref nk3, .ref nk4, .ref nk5, .ref nk6, .ref nk7, .ref nk8, .ref nk9])), (h0, .inr (5, [.ref now, .ref mind, .ref lts, .ref told, .ref rdr, .ref sea, .ref way, .ref ref, .ref ksc, .ref kle, .ref kto, .int 0])), (ref, .inl (cI, 7, .inl (upd (fun _ => 0) 1 1)))] := hD
  have er5 : (-1) = r5 := Eq.symm hw6
  subst er5
  exact vx_iret (u := ()) hx hb hr hlocks hK hP hD hS [] rfl (by decide) rfl dX7_swap_32
theorem zz_t_law_0 (a : Int32) (h0 : ¬ a < (0 : Int32)) (h1 : ¬ (6 : Int32) < a) : (1 : Int32) = f_law a := by
  have e0 : ((-2) : Int32).toInt = -2 := by decide
  have e1 : (0 : Int32).toInt = 0 := by decide
  have e2 : (1 : Int32).toInt = 1 := by decide
  have e3 : (6 : Int32).toInt = 6 := by decide
  have e4 : (32 : Int32).toInt = 32 := by decide
  unfold f_law
  (repeat' split) <;> first | rfl | (exfalso; simp only [Int32.lt_iff_toInt_lt, Int32.le_iff_toInt_le, ← Int32.toInt_inj, e0, e1, e2, e3, e4] at * <;> omega)
theorem zz_t_law_1 (a : Int32) (h0 : a < (0 : Int32) ∨ (6 : Int32) < a) : ((-2) : Int32) = f_law a := by
  have e0 : ((-2) : Int32).toInt = -2 := by decide
  have e1 : (0 : Int32).toInt = 0 := by decide
  have e2 : (1 : Int32).toInt = 1 := by decide
  have e3 : (6 : Int32).toInt = 6 := by decide
  have e4 : (32 : Int32).toInt = 32 := by decide
  unfold f_law
  (repeat' split) <;> first | rfl | (exfalso; simp only [Int32.lt_iff_toInt_lt, Int32.le_iff_toInt_le, ← Int32.toInt_inj, e0, e1, e2, e3, e4] at * <;> omega)
set_option maxHeartbeats 4000000 in
set_option maxRecDepth 100000 in
theorem t_law (l : Launch) (dC : Nat → ClassId) (dI : Nat → Nat → Nat) (cI cC cZ : ClassId) (sz : Nat) (h0 now mind lts told rdr sea way ref ksc kle kto nk0 nk1 nk2 nk3 nk4 nk5 nk6 nk7 nk8 nk9 : Nat) (a : Int32) : Met l yX7_law wsX7_law ({ frames := 1, cells := 0, slots := 0, locals := 21 }) (va_Pc [.ref h0, .int a] (vx_B (dC, dI) (vx_T cI cC cZ) sz [(h0, .inr (5, [.ref now, .ref mind, .ref lts, .ref told, .ref rdr, .ref sea, .ref way, .ref ref, .ref ksc, .ref kle, .ref kto, .int 0])), (ref, .inl (cI, 7, .inl (fun _ => 0))), (now, .inr (2, [.int 0, .int 2, .int 1, .int 10, .int 0, .int 1, .ref nk0, .ref nk1, .ref nk2, .ref nk3, .ref nk4, .ref nk5, .ref nk6, .ref nk7, .ref nk8, .ref nk9]))])) (va_Qi (fun (r : Int32) (_ : Unit) => r = f_law a) (vx_C (dC, dI) (vx_T cI cC cZ) (va_A [(h0, .inr (5, [.ref now, .ref mind, .ref lts, .ref told, .ref rdr, .ref sea, .ref way, .ref ref, .ref ksc, .ref kle, .ref kto, .int 0])), (ref, .inl (cI, 7, .inl (fun _ => 0))), (now, .inr (2, [.int 0, .int 2, .int 1, .int 10, .int 0, .int 1, .ref nk0, .ref nk1, .ref nk2, .ref nk3, .ref nk4, .ref nk5, .ref nk6, .ref nk7, .ref nk8, .ref nk9]))] sz) (fun (u : Unit) => [])) (va_A [(h0, .inr (5, [.ref now, .ref mind, .ref lts, .ref told, .ref rdr, .ref sea, .ref way, .ref ref, .ref ksc, .ref kle, .ref kto, .int 0])), (ref, .inl (cI, 7, .inl (fun _ => 0))), (now, .inr (2, [.int 0, .int 2, .int 1, .int 10, .int 0, .int 1, .ref nk0, .ref nk1, .ref nk2, .ref nk3, .ref nk4, .ref nk5, .ref nk6, .ref nk7, .ref nk8, .ref nk9]))] sz)) 0 0 (va_A [(h0, .inr (5, [.ref now, .ref mind, .ref lts, .ref told, .ref rdr, .ref sea, .ref way, .ref ref, .ref ksc, .ref kle, .ref kto, .int 0])), (ref, .inl (cI, 7, .inl (fun _ => 0))), (now, .inr (2, [.int 0, .int 2, .int 1, .int 10, .int 0, .int 1, .ref nk0, .ref nk1, .ref nk2, .ref nk3, .ref nk4, .ref nk5, .ref nk6, .ref nk7, .ref nk8, .ref nk9]))] sz) := by
  refine Met.ofW (cc := cX7_law) (maxL := 3) (ret := (some .int)) (by decide) rfl ?_
  intro p e s m args below meth c s₁ B hml hv
  obtain ⟨rfl, hsz, hP, hK, hD0⟩ := hv
  have hx := B.exec
  have hb := B.bytes
  have hr := B.returns
  have hts := atoms_spec (ws := wsX7_law) B.pre
  have hown : s.vm.findClass RX7 = some m.cls := findClass_of_methodNamed B.named
  have hlocks := B.notSynchronized
  subst hsz
  have hD := hD0.self (sz := s.heap.size)
  generalize hAe : va_A [(h0, .inr (5, [.ref now, .ref mind, .ref lts, .ref told, .ref rdr, .ref sea, .ref way, .ref ref, .ref ksc, .ref kle, .ref kto, .int 0])), (ref, .inl (cI, 7, .inl (fun _ => 0))), (now, .inr (2, [.int 0, .int 2, .int 1, .int 10, .int 0, .int 1, .ref nk0, .ref nk1, .ref nk2, .ref nk3, .ref nk4, .ref nk5, .ref nk6, .ref nk7, .ref nk8, .ref nk9]))] s.heap.size = A at hD ⊢
  have hA : ∀ q : Nat, s.heap.size ≤ q → A q := fun q h => by rw [← hAe]; exact Or.inr h
  have hS : va_S A s.heap s.heap [] := va_S.rf
  have hl := lv_entry ([.ref h0, .int a]) (n := 3) (Nat.le_of_ble_eq_true rfl)
  rw [lg_entry_eq]
  generalize (lg_sl ([.ref h0, .int a]) ++ List.replicate (3 - (lg_sl ([.ref h0, .int a])).length) Slot.unset).toArray = ls at hl ⊢
  have hl : lv_has ls 3 [(0, .ref h0), (1, .int a)] := hl
  have iX3 : ∀ w ∈ u_ws RX3 TX3 16, w ∈ wsX7_law := by decide +kernel
  have iX7 : ∀ w ∈ u_ws RX7 TX7 12, w ∈ wsX7_law := by decide +kernel
  refine lv_iload_n hx hb dX7_law_0 rfl (lv_at hl 1 rfl) ?_
  have hPc := hP.sub (ws' := []) [] rfl
  have hDc := hD.sub (ws' := []) [] (by decide) rfl
  refine vx_calli (wc := []) (wr := [(h0, .inr (5, [.ref now, .ref mind, .ref lts, .ref told, .ref rdr, .ref sea, .ref way, .ref ref, .ref ksc, .ref kle, .ref kto, .int 0])), (ref, .inl (cI, 7, .inl (fun _ => 0))), (now, .inr (2, [.int 0, .int 2, .int 1, .int 10, .int 0, .int 1, .ref nk0, .ref nk1, .ref nk2, .ref nk3, .ref nk4, .ref nk5, .ref nk6, .ref nk7, .ref nk8, .ref nk9]))]) hP hD hS hA [] [0, 1, 2] rfl rfl (by decide) (by decide) (va_runS (As := [.int a]) (rest := []) ⟨hx, hb, hml, hown, hts⟩ (c_isLaw l dC dI cI cC cZ _ a) (va_cwS 1 hts gX7_law_X7_isLaw rfl rfl rfl (by decide +kernel) ⟨Nat.le_of_ble_eq_true rfl, Nat.le_of_ble_eq_true rfl⟩) ⟨vx_blind, vx_pre hK hPc hDc⟩ rfl rfl hl.1 rfl (lv_room (Nat.le_of_ble_eq_true rfl)) dX7_law_1 ⟨Nat.le_of_ble_eq_true rfl, Nat.le_of_ble_eq_true rfl⟩) (fun r2 u1 H locs hw3 hP hD hS => ?_)
  have hP : va_P (dC, dI) vwCl [(h0, .inr (5, [.ref now, .ref mind, .ref lts, .ref told, .ref rdr, .ref sea, .ref way, .ref ref, .ref ksc, .ref kle, .ref kto, .int 0])), (ref, .inl (cI, 7, .inl (fun _ => 0))), (now, .inr (2, [.int 0, .int 2, .int 1, .int 10, .int 0, .int 1, .ref nk0, .ref nk1, .ref nk2, .ref nk3, .ref nk4, .ref nk5, .ref nk6, .ref nk7, .ref nk8, .ref nk9]))] H := hP
  have hD : va_D A [(h0, .inr (5, [.ref now, .ref mind, .ref lts, .ref told, .ref rdr, .ref sea, .ref way, .ref ref, .ref ksc, .ref kle, .ref kto, .int 0])), (ref, .inl (cI, 7, .inl (fun _ => 0))), (now, .inr (2, [.int 0, .int 2, .int 1, .int 10, .int 0, .int 1, .ref nk0, .ref nk1, .ref nk2, .ref nk3, .ref nk4, .ref nk5, .ref nk6, .ref nk7, .ref nk8, .ref nk9]))] := hD
  rcases hw3 with ⟨er2, kr20, kr21⟩ | ⟨er2, kr20⟩
  · subst er2
    refine lv_if_ne (tgt := 14) hx hb dX7_law_4 (by decide) (fun _ => ?_) (fun c0 => absurd c0 (by decide))
    refine lv_aload_n hx hb dX7_law_14 rfl (lv_at hl 0 rfl) ?_
    refine va_get (D := (dC, dI)) (ci := 5) (v := .ref now) (C := RX7) (T := TX7) (N := 12) hx hb hts iX7 hown hK hP 0 rfl rfl 0 (by decide) (hts (.fieldLink RX7 10 "NeighboursMark" "now" "LNeighboursMark$School;") (by decide +kernel)) (fun _ h9 => h9) rfl dX7_law_15 ?_
    refine va_get (D := (dC, dI)) (ci := 2) (v := .int 1) (C := RX3) (T := TX3) (N := 16) hx hb hts iX3 hown hK hP 2 rfl rfl 2 (by decide) (hts (.fieldLink RX7 136 "NeighboursMark$School" "law" "I") (by decide +kernel)) (fun _ h9 => h9) rfl dX7_law_18 ?_
    refine lv_istore_n (lv' := [(2, .int 1), (0, .ref h0), (1, .int a)]) hx hb dX7_law_21 rfl hl (by decide) rfl (fun ls hl => ?_)
    refine lv_aload_n hx hb dX7_law_22 rfl (lv_at hl 1 rfl) ?_
    refine va_get (D := (dC, dI)) (ci := 5) (v := .ref now) (C := RX7) (T := TX7) (N := 12) hx hb hts iX7 hown hK hP 0 rfl rfl 0 (by decide) (hts (.fieldLink RX7 10 "NeighboursMark" "now" "LNeighboursMark$School;") (by decide +kernel)) (fun _ h9 => h9) rfl dX7_law_23 ?_
    refine lv_iload_n hx hb dX7_law_26 rfl (lv_at hl 2 rfl) ?_
    refine va_put (D := (dC, dI)) (ci := 2) (v := .int a) (ty := .int) (C := RX3) (T := TX3) (N := 16) hx hb hts iX3 tyX3 tyX3_ok nmX3 hown hK hP hD hS 2 rfl rfl 2 (by decide) (hts (.fieldLink RX7 136 "NeighboursMark$School" "law" "I") (by decide +kernel)) (fun _ h9 => h9) rfl (by decide +kernel) rfl rfl (Nat.le_of_ble_eq_true rfl) dX7_law_27 (fun H locs hP hD hS => ?_)
    have hP : va_P (dC, dI) vwCl [(h0, .inr (5, [.ref now, .ref mind, .ref lts, .ref told, .ref rdr, .ref sea, .ref way, .ref ref, .ref ksc, .ref kle, .ref kto, .int 0])), (ref, .inl (cI, 7, .inl (fun _ => 0))), (now, .inr (2, [.int 0, .int 2, .int a, .int 10, .int 0, .int 1, .ref nk0, .ref nk1, .ref nk2, .ref nk3, .ref nk4, .ref nk5, .ref nk6, .ref nk7, .ref nk8, .ref nk9]))] H := hP
    have hD : va_D A [(h0, .inr (5, [.ref now, .ref mind, .ref lts, .ref told, .ref rdr, .ref sea, .ref way, .ref ref, .ref ksc, .ref kle, .ref kto, .int 0])), (ref, .inl (cI, 7, .inl (fun _ => 0))), (now, .inr (2, [.int 0, .int 2, .int a, .int 10, .int 0, .int 1, .ref nk0, .ref nk1, .ref nk2, .ref nk3, .ref nk4, .ref nk5, .ref nk6, .ref nk7, .ref nk8, .ref nk9]))] := hD
    refine lv_iload_n hx hb dX7_law_30 rfl (lv_at hl 0 rfl) ?_
    exact vx_iret (u := ()) hx hb hr hlocks hK hP hD hS [] rfl (by decide) (zz_t_law_0 a kr20 kr21) dX7_law_31
  · subst er2
    refine lv_if_ne (tgt := 14) hx hb dX7_law_4 (by decide) (fun c0 => absurd (by decide) c0) (fun _ => ?_)
    refine lv_aload_n hx hb dX7_law_7 rfl (lv_at hl 0 rfl) ?_
    refine lv_bipush (v := (-2)) hx hb dX7_law_8 (by decide) ?_
    have hPc := hP.sub (ws' := [(h0, .inr (5, [.ref now, .ref mind, .ref lts, .ref told, .ref rdr, .ref sea, .ref way, .ref ref, .ref ksc, .ref kle, .ref kto, .int 0])), (ref, .inl (cI, 7, .inl (fun _ => 0)))]) [0, 1] rfl
    have hDc := hD.sub (ws' := [(h0, .inr (5, [.ref now, .ref mind, .ref lts, .ref told, .ref rdr, .ref sea, .ref way, .ref ref, .ref ksc, .ref kle, .ref kto, .int 0])), (ref, .inl (cI, 7, .inl (fun _ => 0)))]) [0, 1] (by decide) rfl
    refine vx_calli (wc := [(h0, .inr (5, [.ref now, .ref mind, .ref lts, .ref told, .ref rdr, .ref sea, .ref way, .ref ref, .ref ksc, .ref kle, .ref kto, .int 0])), (ref, .inl (cI, 7, .inl (fun _ => 0)))]) (wr := [(now, .inr (2, [.int 0, .int 2, .int 1, .int 10, .int 0, .int 1, .ref nk0, .ref nk1, .ref nk2, .ref nk3, .ref nk4, .ref nk5, .ref nk6, .ref nk7, .ref nk8, .ref nk9]))]) hP hD hS hA [0, 1] [2] rfl rfl (by decide) (by decide) (va_runV (As := [.int (-2)]) (rest := []) ⟨hx, hb, hml, hown, hts⟩ (c_refuse2 l dC dI cI cC cZ _ h0 now mind lts told rdr sea way ref ksc kle kto 0 0 (fun _ => 0) rfl) (cwV 1 hts gX7_law_X7_refuse rfl rfl rfl (by decide +kernel) ⟨Nat.le_of_ble_eq_true rfl, Nat.le_of_ble_eq_true rfl⟩) ⟨vx_blind, va_recv hK hPc (ci := 5) (q0 := 0) rfl rfl, vx_pre hK hPc hDc⟩ rfl rfl hl.1 rfl (lv_room (Nat.le_of_ble_eq_true rfl)) dX7_law_10 ⟨Nat.le_of_ble_eq_true rfl, Nat.le_of_ble_eq_true rfl⟩) (fun r5 u4 H locs hw6 hP hD hS => ?_)
    have hP : va_P (dC, dI) vwCl [(now, .inr (2, [.int 0, .int 2, .int 1, .int 10, .int 0, .int 1, .ref nk0, .ref nk1, .ref nk2, .ref nk3, .ref nk4, .ref nk5, .ref nk6, .ref nk7, .ref nk8, .ref nk9])), (h0, .inr (5, [.ref now, .ref mind, .ref lts, .ref told, .ref rdr, .ref sea, .ref way, .ref ref, .ref ksc, .ref kle, .ref kto, .int 0])), (ref, .inl (cI, 7, .inl (upd (fun _ => 0) 2 1)))] H := hP
    have hD : va_D A [(now, .inr (2, [.int 0, .int 2, .int 1, .int 10, .int 0, .int 1, .ref nk0, .ref nk1, .ref nk2, .ref nk3, .ref nk4, .ref nk5, .ref nk6, .ref nk7, .ref nk8, .ref nk9])), (h0, .inr (5, [.ref now, .ref mind, .ref lts, .ref told, .ref rdr, .ref sea, .ref way, .ref ref, .ref ksc, .ref kle, .ref kto, .int 0])), (ref, .inl (cI, 7, .inl (upd (fun _ => 0) 2 1)))] := hD
    have er5 : (-2) = r5 := Eq.symm hw6
    subst er5
    exact vx_iret (u := ()) hx hb hr hlocks hK hP hD hS [] rfl (by decide) (zz_t_law_1 a kr20) dX7_law_13
theorem zz_t_pass_0 (a : Int32) (h0 : (0 : Int32) ≤ a) (h1 : a ≤ (99 : Int32)) : (10 : Int32) = f_pass a := by
  have e0 : ((-6) : Int32).toInt = -6 := by decide
  have e1 : ((-4) : Int32).toInt = -4 := by decide
  have e2 : (0 : Int32).toInt = 0 := by decide
  have e3 : (10 : Int32).toInt = 10 := by decide
  have e4 : (32 : Int32).toInt = 32 := by decide
  have e5 : (99 : Int32).toInt = 99 := by decide
  unfold f_pass
  (repeat' split) <;> first | rfl | (exfalso; simp only [Int32.lt_iff_toInt_lt, Int32.le_iff_toInt_le, ← Int32.toInt_inj, e0, e1, e2, e3, e4, e5] at * <;> omega)
theorem zz_t_pass_1 (a : Int32) (h0 : (0 : Int32) ≤ a) (h1 : ¬ a ≤ (99 : Int32)) : ((-6) : Int32) = f_pass a := by
  have e0 : ((-6) : Int32).toInt = -6 := by decide
  have e1 : ((-4) : Int32).toInt = -4 := by decide
  have e2 : (0 : Int32).toInt = 0 := by decide
  have e3 : (10 : Int32).toInt = 10 := by decide
  have e4 : (32 : Int32).toInt = 32 := by decide
  have e5 : (99 : Int32).toInt = 99 := by decide
  unfold f_pass
  (repeat' split) <;> first | rfl | (exfalso; simp only [Int32.lt_iff_toInt_lt, Int32.le_iff_toInt_le, ← Int32.toInt_inj, e0, e1, e2, e3, e4, e5] at * <;> omega)
theorem zz_t_pass_2 (a : Int32) (h0 : ¬ (0 : Int32) ≤ a) : ((-4) : Int32) = f_pass a := by
  have e0 : ((-6) : Int32).toInt = -6 := by decide
  have e1 : ((-4) : Int32).toInt = -4 := by decide
  have e2 : (0 : Int32).toInt = 0 := by decide
  have e3 : (10 : Int32).toInt = 10 := by decide
  have e4 : (32 : Int32).toInt = 32 := by decide
  have e5 : (99 : Int32).toInt = 99 := by decide
  unfold f_pass
  (repeat' split) <;> first | rfl | (exfalso; simp only [Int32.lt_iff_toInt_lt, Int32.le_iff_toInt_le, ← Int32.toInt_inj, e0, e1, e2, e3, e4, e5] at * <;> omega)
set_option maxHeartbeats 4000000 in
set_option maxRecDepth 100000 in
theorem t_pass (l : Launch) (dC : Nat → ClassId) (dI : Nat → Nat → Nat) (cI cC cZ : ClassId) (sz : Nat) (h0 now mind lts told rdr sea way ref ksc kle kto nk0 nk1 nk2 nk3 nk4 nk5 nk6 nk7 nk8 nk9 : Nat) (a : Int32) : Met l yX7_pass wsX7_pass ({ frames := 1, cells := 0, slots := 0, locals := 21 }) (va_Pc [.ref h0, .int a] (vx_B (dC, dI) (vx_T cI cC cZ) sz [(h0, .inr (5, [.ref now, .ref mind, .ref lts, .ref told, .ref rdr, .ref sea, .ref way, .ref ref, .ref ksc, .ref kle, .ref kto, .int 0])), (ref, .inl (cI, 7, .inl (fun _ => 0))), (now, .inr (2, [.int 0, .int 2, .int 1, .int 10, .int 0, .int 1, .ref nk0, .ref nk1, .ref nk2, .ref nk3, .ref nk4, .ref nk5, .ref nk6, .ref nk7, .ref nk8, .ref nk9]))])) (va_Qi (fun (r : Int32) (_ : Unit) => r = f_pass a) (vx_C (dC, dI) (vx_T cI cC cZ) (va_A [(h0, .inr (5, [.ref now, .ref mind, .ref lts, .ref told, .ref rdr, .ref sea, .ref way, .ref ref, .ref ksc, .ref kle, .ref kto, .int 0])), (ref, .inl (cI, 7, .inl (fun _ => 0))), (now, .inr (2, [.int 0, .int 2, .int 1, .int 10, .int 0, .int 1, .ref nk0, .ref nk1, .ref nk2, .ref nk3, .ref nk4, .ref nk5, .ref nk6, .ref nk7, .ref nk8, .ref nk9]))] sz) (fun (u : Unit) => [])) (va_A [(h0, .inr (5, [.ref now, .ref mind, .ref lts, .ref told, .ref rdr, .ref sea, .ref way, .ref ref, .ref ksc, .ref kle, .ref kto, .int 0])), (ref, .inl (cI, 7, .inl (fun _ => 0))), (now, .inr (2, [.int 0, .int 2, .int 1, .int 10, .int 0, .int 1, .ref nk0, .ref nk1, .ref nk2, .ref nk3, .ref nk4, .ref nk5, .ref nk6, .ref nk7, .ref nk8, .ref nk9]))] sz)) 0 0 (va_A [(h0, .inr (5, [.ref now, .ref mind, .ref lts, .ref told, .ref rdr, .ref sea, .ref way, .ref ref, .ref ksc, .ref kle, .ref kto, .int 0])), (ref, .inl (cI, 7, .inl (fun _ => 0))), (now, .inr (2, [.int 0, .int 2, .int 1, .int 10, .int 0, .int 1, .ref nk0, .ref nk1, .ref nk2, .ref nk3, .ref nk4, .ref nk5, .ref nk6, .ref nk7, .ref nk8, .ref nk9]))] sz) := by
  refine Met.ofW (cc := cX7_pass) (maxL := 3) (ret := (some .int)) (by decide) rfl ?_
  intro p e s m args below meth c s₁ B hml hv
  obtain ⟨rfl, hsz, hP, hK, hD0⟩ := hv
  have hx := B.exec
  have hb := B.bytes
  have hr := B.returns
  have hts := atoms_spec (ws := wsX7_pass) B.pre
  have hown : s.vm.findClass RX7 = some m.cls := findClass_of_methodNamed B.named
  have hlocks := B.notSynchronized
  subst hsz
  have hD := hD0.self (sz := s.heap.size)
  generalize hAe : va_A [(h0, .inr (5, [.ref now, .ref mind, .ref lts, .ref told, .ref rdr, .ref sea, .ref way, .ref ref, .ref ksc, .ref kle, .ref kto, .int 0])), (ref, .inl (cI, 7, .inl (fun _ => 0))), (now, .inr (2, [.int 0, .int 2, .int 1, .int 10, .int 0, .int 1, .ref nk0, .ref nk1, .ref nk2, .ref nk3, .ref nk4, .ref nk5, .ref nk6, .ref nk7, .ref nk8, .ref nk9]))] s.heap.size = A at hD ⊢
  have hA : ∀ q : Nat, s.heap.size ≤ q → A q := fun q h => by rw [← hAe]; exact Or.inr h
  have hS : va_S A s.heap s.heap [] := va_S.rf
  have hl := lv_entry ([.ref h0, .int a]) (n := 3) (Nat.le_of_ble_eq_true rfl)
  rw [lg_entry_eq]
  generalize (lg_sl ([.ref h0, .int a]) ++ List.replicate (3 - (lg_sl ([.ref h0, .int a])).length) Slot.unset).toArray = ls at hl ⊢
  have hl : lv_has ls 3 [(0, .ref h0), (1, .int a)] := hl
  have iX3 : ∀ w ∈ u_ws RX3 TX3 16, w ∈ wsX7_pass := by decide +kernel
  have iX7 : ∀ w ∈ u_ws RX7 TX7 12, w ∈ wsX7_pass := by decide +kernel
  refine lv_iload_n hx hb dX7_pass_0 rfl (lv_at hl 1 rfl) ?_
  refine lv_if_ge (tgt := 11) hx hb dX7_pass_1 (by decide) (fun c1 => ?_) (fun c1 => ?_)
  · skip
    refine lv_iload_n hx hb dX7_pass_11 rfl (lv_at hl 1 rfl) ?_
    refine lv_bipush (v := 99) hx hb dX7_pass_12 (by decide) ?_
    refine lv_icmp_le (tgt := 24) hx hb dX7_pass_14 (by decide) (fun c2 => ?_) (fun c2 => ?_)
    · skip
      refine lv_aload_n hx hb dX7_pass_24 rfl (lv_at hl 0 rfl) ?_
      refine va_get (D := (dC, dI)) (ci := 5) (v := .ref now) (C := RX7) (T := TX7) (N := 12) hx hb hts iX7 hown hK hP 0 rfl rfl 0 (by decide) (hts (.fieldLink RX7 10 "NeighboursMark" "now" "LNeighboursMark$School;") (by decide +kernel)) (fun _ h9 => h9) rfl dX7_pass_25 ?_
      refine va_get (D := (dC, dI)) (ci := 2) (v := .int 10) (C := RX3) (T := TX3) (N := 16) hx hb hts iX3 hown hK hP 2 rfl rfl 3 (by decide) (hts (.fieldLink RX7 139 "NeighboursMark$School" "pass" "I") (by decide +kernel)) (fun _ h9 => h9) rfl dX7_pass_28 ?_
      refine lv_istore_n (lv' := [(2, .int 10), (0, .ref h0), (1, .int a)]) hx hb dX7_pass_31 rfl hl (by decide) rfl (fun ls hl => ?_)
      refine lv_aload_n hx hb dX7_pass_32 rfl (lv_at hl 1 rfl) ?_
      refine va_get (D := (dC, dI)) (ci := 5) (v := .ref now) (C := RX7) (T := TX7) (N := 12) hx hb hts iX7 hown hK hP 0 rfl rfl 0 (by decide) (hts (.fieldLink RX7 10 "NeighboursMark" "now" "LNeighboursMark$School;") (by decide +kernel)) (fun _ h9 => h9) rfl dX7_pass_33 ?_
      refine lv_iload_n hx hb dX7_pass_36 rfl (lv_at hl 2 rfl) ?_
      refine va_put (D := (dC, dI)) (ci := 2) (v := .int a) (ty := .int) (C := RX3) (T := TX3) (N := 16) hx hb hts iX3 tyX3 tyX3_ok nmX3 hown hK hP hD hS 2 rfl rfl 3 (by decide) (hts (.fieldLink RX7 139 "NeighboursMark$School" "pass" "I") (by decide +kernel)) (fun _ h9 => h9) rfl (by decide +kernel) rfl rfl (Nat.le_of_ble_eq_true rfl) dX7_pass_37 (fun H locs hP hD hS => ?_)
      have hP : va_P (dC, dI) vwCl [(h0, .inr (5, [.ref now, .ref mind, .ref lts, .ref told, .ref rdr, .ref sea, .ref way, .ref ref, .ref ksc, .ref kle, .ref kto, .int 0])), (ref, .inl (cI, 7, .inl (fun _ => 0))), (now, .inr (2, [.int 0, .int 2, .int 1, .int a, .int 0, .int 1, .ref nk0, .ref nk1, .ref nk2, .ref nk3, .ref nk4, .ref nk5, .ref nk6, .ref nk7, .ref nk8, .ref nk9]))] H := hP
      have hD : va_D A [(h0, .inr (5, [.ref now, .ref mind, .ref lts, .ref told, .ref rdr, .ref sea, .ref way, .ref ref, .ref ksc, .ref kle, .ref kto, .int 0])), (ref, .inl (cI, 7, .inl (fun _ => 0))), (now, .inr (2, [.int 0, .int 2, .int 1, .int a, .int 0, .int 1, .ref nk0, .ref nk1, .ref nk2, .ref nk3, .ref nk4, .ref nk5, .ref nk6, .ref nk7, .ref nk8, .ref nk9]))] := hD
      refine lv_iload_n hx hb dX7_pass_40 rfl (lv_at hl 0 rfl) ?_
      exact vx_iret (u := ()) hx hb hr hlocks hK hP hD hS [] rfl (by decide) (zz_t_pass_0 a c1 c2) dX7_pass_41
    · skip
      refine lv_aload_n hx hb dX7_pass_17 rfl (lv_at hl 0 rfl) ?_
      refine lv_bipush (v := (-6)) hx hb dX7_pass_18 (by decide) ?_
      have hPc := hP.sub (ws' := [(h0, .inr (5, [.ref now, .ref mind, .ref lts, .ref told, .ref rdr, .ref sea, .ref way, .ref ref, .ref ksc, .ref kle, .ref kto, .int 0])), (ref, .inl (cI, 7, .inl (fun _ => 0)))]) [0, 1] rfl
      have hDc := hD.sub (ws' := [(h0, .inr (5, [.ref now, .ref mind, .ref lts, .ref told, .ref rdr, .ref sea, .ref way, .ref ref, .ref ksc, .ref kle, .ref kto, .int 0])), (ref, .inl (cI, 7, .inl (fun _ => 0)))]) [0, 1] (by decide) rfl
      refine vx_calli (wc := [(h0, .inr (5, [.ref now, .ref mind, .ref lts, .ref told, .ref rdr, .ref sea, .ref way, .ref ref, .ref ksc, .ref kle, .ref kto, .int 0])), (ref, .inl (cI, 7, .inl (fun _ => 0)))]) (wr := [(now, .inr (2, [.int 0, .int 2, .int 1, .int 10, .int 0, .int 1, .ref nk0, .ref nk1, .ref nk2, .ref nk3, .ref nk4, .ref nk5, .ref nk6, .ref nk7, .ref nk8, .ref nk9]))]) hP hD hS hA [0, 1] [2] rfl rfl (by decide) (by decide) (va_runV (As := [.int (-6)]) (rest := []) ⟨hx, hb, hml, hown, hts⟩ (c_refuse6 l dC dI cI cC cZ _ h0 now mind lts told rdr sea way ref ksc kle kto 0 0 (fun _ => 0) rfl) (cwV 1 hts gX7_pass_X7_refuse rfl rfl rfl (by decide +kernel) ⟨Nat.le_of_ble_eq_true rfl, Nat.le_of_ble_eq_true rfl⟩) ⟨vx_blind, va_recv hK hPc (ci := 5) (q0 := 0) rfl rfl, vx_pre hK hPc hDc⟩ rfl rfl hl.1 rfl (lv_room (Nat.le_of_ble_eq_true rfl)) dX7_pass_20 ⟨Nat.le_of_ble_eq_true rfl, Nat.le_of_ble_eq_true rfl⟩) (fun r4 u3 H locs hw5 hP hD hS => ?_)
      have hP : va_P (dC, dI) vwCl [(now, .inr (2, [.int 0, .int 2, .int 1, .int 10, .int 0, .int 1, .ref nk0, .ref nk1, .ref nk2, .ref nk3, .ref nk4, .ref nk5, .ref nk6, .ref nk7, .ref nk8, .ref nk9])), (h0, .inr (5, [.ref now, .ref mind, .ref lts, .ref told, .ref rdr, .ref sea, .ref way, .ref ref, .ref ksc, .ref kle, .ref kto, .int 0])), (ref, .inl (cI, 7, .inl (upd (fun _ => 0) 6 1)))] H := hP
      have hD : va_D A [(now, .inr (2, [.int 0, .int 2, .int 1, .int 10, .int 0, .int 1, .ref nk0, .ref nk1, .ref nk2, .ref nk3, .ref nk4, .ref nk5, .ref nk6, .ref nk7, .ref nk8, .ref nk9])), (h0, .inr (5, [.ref now, .ref mind, .ref lts, .ref told, .ref rdr, .ref sea, .ref way, .ref ref, .ref ksc, .ref kle, .ref kto, .int 0])), (ref, .inl (cI, 7, .inl (upd (fun _ => 0) 6 1)))] := hD
      have er4 : (-6) = r4 := Eq.symm hw5
      subst er4
      exact vx_iret (u := ()) hx hb hr hlocks hK hP hD hS [] rfl (by decide) (zz_t_pass_1 a c1 c2) dX7_pass_23
  · skip
    refine lv_aload_n hx hb dX7_pass_4 rfl (lv_at hl 0 rfl) ?_
    refine lv_bipush (v := (-4)) hx hb dX7_pass_5 (by decide) ?_
    have hPc := hP.sub (ws' := [(h0, .inr (5, [.ref now, .ref mind, .ref lts, .ref told, .ref rdr, .ref sea, .ref way, .ref ref, .ref ksc, .ref kle, .ref kto, .int 0])), (ref, .inl (cI, 7, .inl (fun _ => 0)))]) [0, 1] rfl
    have hDc := hD.sub (ws' := [(h0, .inr (5, [.ref now, .ref mind, .ref lts, .ref told, .ref rdr, .ref sea, .ref way, .ref ref, .ref ksc, .ref kle, .ref kto, .int 0])), (ref, .inl (cI, 7, .inl (fun _ => 0)))]) [0, 1] (by decide) rfl
    refine vx_calli (wc := [(h0, .inr (5, [.ref now, .ref mind, .ref lts, .ref told, .ref rdr, .ref sea, .ref way, .ref ref, .ref ksc, .ref kle, .ref kto, .int 0])), (ref, .inl (cI, 7, .inl (fun _ => 0)))]) (wr := [(now, .inr (2, [.int 0, .int 2, .int 1, .int 10, .int 0, .int 1, .ref nk0, .ref nk1, .ref nk2, .ref nk3, .ref nk4, .ref nk5, .ref nk6, .ref nk7, .ref nk8, .ref nk9]))]) hP hD hS hA [0, 1] [2] rfl rfl (by decide) (by decide) (va_runV (As := [.int (-4)]) (rest := []) ⟨hx, hb, hml, hown, hts⟩ (c_refuse4 l dC dI cI cC cZ _ h0 now mind lts told rdr sea way ref ksc kle kto 0 0 (fun _ => 0) rfl) (cwV 1 hts gX7_pass_X7_refuse rfl rfl rfl (by decide +kernel) ⟨Nat.le_of_ble_eq_true rfl, Nat.le_of_ble_eq_true rfl⟩) ⟨vx_blind, va_recv hK hPc (ci := 5) (q0 := 0) rfl rfl, vx_pre hK hPc hDc⟩ rfl rfl hl.1 rfl (lv_room (Nat.le_of_ble_eq_true rfl)) dX7_pass_7 ⟨Nat.le_of_ble_eq_true rfl, Nat.le_of_ble_eq_true rfl⟩) (fun r7 u6 H locs hw8 hP hD hS => ?_)
    have hP : va_P (dC, dI) vwCl [(now, .inr (2, [.int 0, .int 2, .int 1, .int 10, .int 0, .int 1, .ref nk0, .ref nk1, .ref nk2, .ref nk3, .ref nk4, .ref nk5, .ref nk6, .ref nk7, .ref nk8, .ref nk9])), (h0, .inr (5, [.ref now, .ref mind, .ref lts, .ref told, .ref rdr, .ref sea, .ref way, .ref ref, .ref ksc, .ref kle, .ref kto, .int 0])), (ref, .inl (cI, 7, .inl (upd (fun _ => 0) 4 1)))] H := hP
    have hD : va_D A [(now, .inr (2, [.int 0, .int 2, .int 1, .int 10, .int 0, .int 1, .ref nk0, .ref nk1, .ref nk2, .ref nk3, .ref nk4, .ref nk5, .ref nk6, .ref nk7, .ref nk8, .ref nk9])), (h0, .inr (5, [.ref now, .ref mind, .ref lts, .ref told, .ref rdr, .ref sea, .ref way, .ref ref, .ref ksc, .ref kle, .ref kto, .int 0])), (ref, .inl (cI, 7, .inl (upd (fun _ => 0) 4 1)))] := hD
    have er7 : (-4) = r7 := Eq.symm hw8
    subst er7
    exact vx_iret (u := ()) hx hb hr hlocks hK hP hD hS [] rfl (by decide) (zz_t_pass_2 a c1) dX7_pass_10
set_option maxHeartbeats 4000000 in
set_option maxRecDepth 100000 in
theorem t_week (l : Launch) (dC : Nat → ClassId) (dI : Nat → Nat → Nat) (cI cC cZ : ClassId) (sz : Nat) (h0 now mind lts told rdr sea way ref ksc kle kto nk0 nk1 nk2 nk3 nk4 nk5 nk6 nk7 nk8 nk9 : Nat) : Met l yX7_week wsX7_week ({ frames := 1, cells := 0, slots := 0, locals := 21 }) (va_Pc [.ref h0] (vx_B (dC, dI) (vx_T cI cC cZ) sz [(h0, .inr (5, [.ref now, .ref mind, .ref lts, .ref told, .ref rdr, .ref sea, .ref way, .ref ref, .ref ksc, .ref kle, .ref kto, .int 0])), (now, .inr (2, [.int 0, .int 2, .int 1, .int 10, .int 0, .int 1, .ref nk0, .ref nk1, .ref nk2, .ref nk3, .ref nk4, .ref nk5, .ref nk6, .ref nk7, .ref nk8, .ref nk9]))])) (va_Qi (fun (r : Int32) (_ : Unit) => r = 1) (vx_C (dC, dI) (vx_T cI cC cZ) (va_A [(h0, .inr (5, [.ref now, .ref mind, .ref lts, .ref told, .ref rdr, .ref sea, .ref way, .ref ref, .ref ksc, .ref kle, .ref kto, .int 0])), (now, .inr (2, [.int 0, .int 2, .int 1, .int 10, .int 0, .int 1, .ref nk0, .ref nk1, .ref nk2, .ref nk3, .ref nk4, .ref nk5, .ref nk6, .ref nk7, .ref nk8, .ref nk9]))] sz) (fun (u : Unit) => [])) (va_A [(h0, .inr (5, [.ref now, .ref mind, .ref lts, .ref told, .ref rdr, .ref sea, .ref way, .ref ref, .ref ksc, .ref kle, .ref kto, .int 0])), (now, .inr (2, [.int 0, .int 2, .int 1, .int 10, .int 0, .int 1, .ref nk0, .ref nk1, .ref nk2, .ref nk3, .ref nk4, .ref nk5, .ref nk6, .ref nk7, .ref nk8, .ref nk9]))] sz)) 0 0 (va_A [(h0, .inr (5, [.ref now, .ref mind, .ref lts, .ref told, .ref rdr, .ref sea, .ref way, .ref ref, .ref ksc, .ref kle, .ref kto, .int 0])), (now, .inr (2, [.int 0, .int 2, .int 1, .int 10, .int 0, .int 1, .ref nk0, .ref nk1, .ref nk2, .ref nk3, .ref nk4, .ref nk5, .ref nk6, .ref nk7, .ref nk8, .ref nk9]))] sz) := by
  refine Met.ofW (cc := cX7_week) (maxL := 1) (ret := (some .int)) (by decide) rfl ?_
  intro p e s m args below meth c s₁ B hml hv
  obtain ⟨rfl, hsz, hP, hK, hD0⟩ := hv
  have hx := B.exec
  have hb := B.bytes
  have hr := B.returns
  have hts := atoms_spec (ws := wsX7_week) B.pre
  have hown : s.vm.findClass RX7 = some m.cls := findClass_of_methodNamed B.named
  have hlocks := B.notSynchronized
  subst hsz
  have hD := hD0.self (sz := s.heap.size)
  generalize hAe : va_A [(h0, .inr (5, [.ref now, .ref mind, .ref lts, .ref told, .ref rdr, .ref sea, .ref way, .ref ref, .ref ksc, .ref kle, .ref kto, .int 0])), (now, .inr (2, [.int 0, .int 2, .int 1, .int 10, .int 0, .int 1, .ref nk0, .ref nk1, .ref nk2, .ref nk3, .ref nk4, .ref nk5, .ref nk6, .ref nk7, .ref nk8, .ref nk9]))] s.heap.size = A at hD ⊢
  have hA : ∀ q : Nat, s.heap.size ≤ q → A q := fun q h => by rw [← hAe]; exact Or.inr h
  have hS : va_S A s.heap s.heap [] := va_S.rf
  have hl := lv_entry ([.ref h0]) (n := 1) (Nat.le_of_ble_eq_true rfl)
  rw [lg_entry_eq]
  generalize (lg_sl ([.ref h0]) ++ List.replicate (1 - (lg_sl ([.ref h0])).length) Slot.unset).toArray = ls at hl ⊢
  have hl : lv_has ls 1 [(0, .ref h0)] := hl
  have iX3 : ∀ w ∈ u_ws RX3 TX3 16, w ∈ wsX7_week := by decide +kernel
  have iX7 : ∀ w ∈ u_ws RX7 TX7 12, w ∈ wsX7_week := by decide +kernel
  refine lv_aload_n hx hb dX7_week_0 rfl (lv_at hl 0 rfl) ?_
  refine va_get (D := (dC, dI)) (ci := 5) (v := .ref now) (C := RX7) (T := TX7) (N := 12) hx hb hts iX7 hown hK hP 0 rfl rfl 0 (by decide) (hts (.fieldLink RX7 10 "NeighboursMark" "now" "LNeighboursMark$School;") (by decide +kernel)) (fun _ h9 => h9) rfl dX7_week_1 ?_
  refine va_get (D := (dC, dI)) (ci := 2) (v := .int 0) (C := RX3) (T := TX3) (N := 16) hx hb hts iX3 hown hK hP 1 rfl rfl 4 (by decide) (hts (.fieldLink RX7 142 "NeighboursMark$School" "week" "I") (by decide +kernel)) (fun _ h9 => h9) rfl dX7_week_4 ?_
  refine lv_sipush (v := 999) hx hb dX7_week_7 (by decide) ?_
  refine lv_icmp_lt (tgt := 20) hx hb dX7_week_10 (by decide) (fun _ => ?_) (fun c0 => absurd (by decide) c0)
  refine lv_aload_n hx hb dX7_week_20 rfl (lv_at hl 0 rfl) ?_
  refine va_get (D := (dC, dI)) (ci := 5) (v := .ref now) (C := RX7) (T := TX7) (N := 12) hx hb hts iX7 hown hK hP 0 rfl rfl 0 (by decide) (hts (.fieldLink RX7 10 "NeighboursMark" "now" "LNeighboursMark$School;") (by decide +kernel)) (fun _ h9 => h9) rfl dX7_week_21 ?_
  have hPc := hP.sub (ws' := [(now, .inr (2, [.int 0, .int 2, .int 1, .int 10, .int 0, .int 1, .ref nk0, .ref nk1, .ref nk2, .ref nk3, .ref nk4, .ref nk5, .ref nk6, .ref nk7, .ref nk8, .ref nk9]))]) [1] rfl
  have hDc := hD.sub (ws' := [(now, .inr (2, [.int 0, .int 2, .int 1, .int 10, .int 0, .int 1, .ref nk0, .ref nk1, .ref nk2, .ref nk3, .ref nk4, .ref nk5, .ref nk6, .ref nk7, .ref nk8, .ref nk9]))]) [1] (by decide) rfl
  refine vx_callv (wc := [(now, .inr (2, [.int 0, .int 2, .int 1, .int 10, .int 0, .int 1, .ref nk0, .ref nk1, .ref nk2, .ref nk3, .ref nk4, .ref nk5, .ref nk6, .ref nk7, .ref nk8, .ref nk9]))]) (wr := [(h0, .inr (5, [.ref now, .ref mind, .ref lts, .ref told, .ref rdr, .ref sea, .ref way, .ref ref, .ref ksc, .ref kle, .ref kto, .int 0]))]) hP hD hS hA [1] [0] rfl rfl (by decide) (by decide) (va_runS (As := [.ref now]) (rest := []) ⟨hx, hb, hml, hown, hts⟩ (c_goBy l dC dI cI cC cZ _ now nk0 nk1 nk2 nk3 nk4 nk5 nk6 nk7 nk8 nk9 2 1 10 0) (va_cwS 1 hts gX7_week_X6_goBy rfl rfl rfl (by decide +kernel) ⟨Nat.le_of_ble_eq_true rfl, Nat.le_of_ble_eq_true rfl⟩) ⟨vx_blind, vx_pre hK hPc hDc⟩ rfl rfl hl.1 rfl (lv_room (Nat.le_of_ble_eq_true rfl)) dX7_week_24 ⟨Nat.le_of_ble_eq_true rfl, Nat.le_of_ble_eq_true rfl⟩) (fun u1 H locs hw3 hP hD hS => ?_)
  have hP : va_P (dC, dI) vwCl [(h0, .inr (5, [.ref now, .ref mind, .ref lts, .ref told, .ref rdr, .ref sea, .ref way, .ref ref, .ref ksc, .ref kle, .ref kto, .int 0])), (now, .inr (2, [.int 0, .int 2, .int 1, .int 10, .int 1, .int 1, .ref nk0, .ref nk1, .ref nk2, .ref nk3, .ref nk4, .ref nk5, .ref nk6, .ref nk7, .ref nk8, .ref nk9]))] H := hP
  have hD : va_D A [(h0, .inr (5, [.ref now, .ref mind, .ref lts, .ref told, .ref rdr, .ref sea, .ref way, .ref ref, .ref ksc, .ref kle, .ref kto, .int 0])), (now, .inr (2, [.int 0, .int 2, .int 1, .int 10, .int 1, .int 1, .ref nk0, .ref nk1, .ref nk2, .ref nk3, .ref nk4, .ref nk5, .ref nk6, .ref nk7, .ref nk8, .ref nk9]))] := hD
  refine lv_aload_n hx hb dX7_week_27 rfl (lv_at hl 0 rfl) ?_
  refine va_get (D := (dC, dI)) (ci := 5) (v := .ref now) (C := RX7) (T := TX7) (N := 12) hx hb hts iX7 hown hK hP 0 rfl rfl 0 (by decide) (hts (.fieldLink RX7 10 "NeighboursMark" "now" "LNeighboursMark$School;") (by decide +kernel)) (fun _ h9 => h9) rfl dX7_week_28 ?_
  refine va_get (D := (dC, dI)) (ci := 2) (v := .int 1) (C := RX3) (T := TX3) (N := 16) hx hb hts iX3 hown hK hP 1 rfl rfl 4 (by decide) (hts (.fieldLink RX7 142 "NeighboursMark$School" "week" "I") (by decide +kernel)) (fun _ h9 => h9) rfl dX7_week_31 ?_
  exact vx_iret (u := ()) hx hb hr hlocks hK hP hD hS [] rfl (by decide) rfl dX7_week_34
set_option maxHeartbeats 4000000 in
set_option maxRecDepth 100000 in
theorem t_knows (l : Launch) (dC : Nat → ClassId) (dI : Nat → Nat → Nat) (cI cC cZ : ClassId) (sz : Nat) (h0 now mind lts told rdr sea way ref ksc kle kto nk0 nk1 nk2 nk3 nk4 nk5 nk6 nk7 nk8 nk9 : Nat) (a : Int32) : Met l yX7_knows wsX7_knows ({ frames := 1, cells := 0, slots := 0, locals := 21 }) (va_Pc [.ref h0, .int a] (vx_B (dC, dI) (vx_T cI cC cZ) sz [(h0, .inr (5, [.ref now, .ref mind, .ref lts, .ref told, .ref rdr, .ref sea, .ref way, .ref ref, .ref ksc, .ref kle, .ref kto, .int 0])), (ref, .inl (cI, 7, .inl (fun _ => 0))), (now, .inr (2, [.int 0, .int 2, .int 1, .int 10, .int 0, .int 1, .ref nk0, .ref nk1, .ref nk2, .ref nk3, .ref nk4, .ref nk5, .ref nk6, .ref nk7, .ref nk8, .ref nk9]))])) (va_Qi (fun (r : Int32) (_ : Unit) => r = (-1)) (vx_C (dC, dI) (vx_T cI cC cZ) (va_A [(h0, .inr (5, [.ref now, .ref mind, .ref lts, .ref told, .ref rdr, .ref sea, .ref way, .ref ref, .ref ksc, .ref kle, .ref kto, .int 0])), (ref, .inl (cI, 7, .inl (fun _ => 0))), (now, .inr (2, [.int 0, .int 2, .int 1, .int 10, .int 0, .int 1, .ref nk0, .ref nk1, .ref nk2, .ref nk3, .ref nk4, .ref nk5, .ref nk6, .ref nk7, .ref nk8, .ref nk9]))] sz) (fun (u : Unit) => [])) (va_A [(h0, .inr (5, [.ref now, .ref mind, .ref lts, .ref told, .ref rdr, .ref sea, .ref way, .ref ref, .ref ksc, .ref kle, .ref kto, .int 0])), (ref, .inl (cI, 7, .inl (fun _ => 0))), (now, .inr (2, [.int 0, .int 2, .int 1, .int 10, .int 0, .int 1, .ref nk0, .ref nk1, .ref nk2, .ref nk3, .ref nk4, .ref nk5, .ref nk6, .ref nk7, .ref nk8, .ref nk9]))] sz)) 0 0 (va_A [(h0, .inr (5, [.ref now, .ref mind, .ref lts, .ref told, .ref rdr, .ref sea, .ref way, .ref ref, .ref ksc, .ref kle, .ref kto, .int 0])), (ref, .inl (cI, 7, .inl (fun _ => 0))), (now, .inr (2, [.int 0, .int 2, .int 1, .int 10, .int 0, .int 1, .ref nk0, .ref nk1, .ref nk2, .ref nk3, .ref nk4, .ref nk5, .ref nk6, .ref nk7, .ref nk8, .ref nk9]))] sz) := by
  refine Met.ofW (cc := cX7_knows) (maxL := 2) (ret := (some .int)) (by decide) rfl ?_
  intro p e s m args below meth c s₁ B hml hv
  obtain ⟨rfl, hsz, hP, hK, hD0⟩ := hv
  have hx := B.exec
  have hb := B.bytes
  have hr := B.returns
  have hts := atoms_spec (ws := wsX7_knows) B.pre
  have hown : s.vm.findClass RX7 = some m.cls := findClass_of_methodNamed B.named
  have hlocks := B.notSynchronized
  subst hsz
  have hD := hD0.self (sz := s.heap.size)
  generalize hAe : va_A [(h0, .inr (5, [.ref now, .ref mind, .ref lts, .ref told, .ref rdr, .ref sea, .ref way, .ref ref, .ref ksc, .ref kle, .ref kto, .int 0])), (ref, .inl (cI, 7, .inl (fun _ => 0))), (now, .inr (2, [.int 0, .int 2, .int 1, .int 10, .int 0, .int 1, .ref nk0, .ref nk1, .ref nk2, .ref nk3, .ref nk4, .ref nk5, .ref nk6, .ref nk7, .ref nk8, .ref nk9]))] s.heap.size = A at hD ⊢
  have hA : ∀ q : Nat, s.heap.size ≤ q → A q := fun q h => by rw [← hAe]; exact Or.inr h
  have hS : va_S A s.heap s.heap [] := va_S.rf
  have hl := lv_entry ([.ref h0, .int a]) (n := 2) (Nat.le_of_ble_eq_true rfl)
  rw [lg_entry_eq]
  generalize (lg_sl ([.ref h0, .int a]) ++ List.replicate (2 - (lg_sl ([.ref h0, .int a])).length) Slot.unset).toArray = ls at hl ⊢
  have hl : lv_has ls 2 [(0, .ref h0), (1, .int a)] := hl
  have iX7 : ∀ w ∈ u_ws RX7 TX7 12, w ∈ wsX7_knows := by decide +kernel
  refine lv_aload_n hx hb dX7_knows_0 rfl (lv_at hl 0 rfl) ?_
  refine va_get (D := (dC, dI)) (ci := 5) (v := .ref now) (C := RX7) (T := TX7) (N := 12) hx hb hts iX7 hown hK hP 0 rfl rfl 0 (by decide) (hts (.fieldLink RX7 10 "NeighboursMark" "now" "LNeighboursMark$School;") (by decide +kernel)) (fun _ h9 => h9) rfl dX7_knows_1 ?_
  refine lv_iload_n hx hb dX7_knows_4 rfl (lv_at hl 1 rfl) ?_
  have hPc := hP.sub (ws' := [(now, .inr (2, [.int 0, .int 2, .int 1, .int 10, .int 0, .int 1, .ref nk0, .ref nk1, .ref nk2, .ref nk3, .ref nk4, .ref nk5, .ref nk6, .ref nk7, .ref nk8, .ref nk9]))]) [2] rfl
  have hDc := hD.sub (ws' := [(now, .inr (2, [.int 0, .int 2, .int 1, .int 10, .int 0, .int 1, .ref nk0, .ref nk1, .ref nk2, .ref nk3, .ref nk4, .ref nk5, .ref nk6, .ref nk7, .ref nk8, .ref nk9]))]) [2] (by decide) rfl
  refine vx_calli (wc := [(now, .inr (2, [.int 0, .int 2, .int 1, .int 10, .int 0, .int 1, .ref nk0, .ref nk1, .ref nk2, .ref nk3, .ref nk4, .ref nk5, .ref nk6, .ref nk7, .ref nk8, .ref nk9]))]) (wr := [(h0, .inr (5, [.ref now, .ref mind, .ref lts, .ref told, .ref rdr, .ref sea, .ref way, .ref ref, .ref ksc, .ref kle, .ref kto, .int 0])), (ref, .inl (cI, 7, .inl (fun _ => 0)))]) hP hD hS hA [2] [0, 1] rfl rfl (by decide) (by decide) (va_runV (As := [.int a]) (rest := []) ⟨hx, hb, hml, hown, hts⟩ (c_has l dC dI cI cC cZ _ now nk0 nk1 nk2 nk3 nk4 nk5 nk6 nk7 nk8 nk9 2 1 10 0 a) (cwV 1 hts gX7_knows_X3_has rfl rfl rfl (by decide +kernel) ⟨Nat.le_of_ble_eq_true rfl, Nat.le_of_ble_eq_true rfl⟩) ⟨vx_blind, va_recv hK hPc (ci := 2) (q0 := 0) rfl rfl, vx_pre hK hPc hDc⟩ rfl rfl hl.1 rfl (lv_room (Nat.le_of_ble_eq_true rfl)) dX7_knows_5 ⟨Nat.le_of_ble_eq_true rfl, Nat.le_of_ble_eq_true rfl⟩) (fun r2 u1 H locs hw3 hP hD hS => ?_)
  have hP : va_P (dC, dI) vwCl [(h0, .inr (5, [.ref now, .ref mind, .ref lts, .ref told, .ref rdr, .ref sea, .ref way, .ref ref, .ref ksc, .ref kle, .ref kto, .int 0])), (ref, .inl (cI, 7, .inl (fun _ => 0))), (now, .inr (2, [.int 0, .int 2, .int 1, .int 10, .int 0, .int 1, .ref nk0, .ref nk1, .ref nk2, .ref nk3, .ref nk4, .ref nk5, .ref nk6, .ref nk7, .ref nk8, .ref nk9]))] H := hP
  have hD : va_D A [(h0, .inr (5, [.ref now, .ref mind, .ref lts, .ref told, .ref rdr, .ref sea, .ref way, .ref ref, .ref ksc, .ref kle, .ref kto, .int 0])), (ref, .inl (cI, 7, .inl (fun _ => 0))), (now, .inr (2, [.int 0, .int 2, .int 1, .int 10, .int 0, .int 1, .ref nk0, .ref nk1, .ref nk2, .ref nk3, .ref nk4, .ref nk5, .ref nk6, .ref nk7, .ref nk8, .ref nk9]))] := hD
  have er2 : 0 = r2 := Eq.symm hw3
  subst er2
  refine lv_if_ne (tgt := 17) hx hb dX7_knows_8 (by decide) (fun c0 => absurd (by decide) c0) (fun _ => ?_)
  refine lv_aload_n hx hb dX7_knows_11 rfl (lv_at hl 0 rfl) ?_
  refine lv_iconst (v := (-1)) hx hb dX7_knows_12 (by decide) ?_
  have hPc := hP.sub (ws' := [(h0, .inr (5, [.ref now, .ref mind, .ref lts, .ref told, .ref rdr, .ref sea, .ref way, .ref ref, .ref ksc, .ref kle, .ref kto, .int 0])), (ref, .inl (cI, 7, .inl (fun _ => 0)))]) [0, 1] rfl
  have hDc := hD.sub (ws' := [(h0, .inr (5, [.ref now, .ref mind, .ref lts, .ref told, .ref rdr, .ref sea, .ref way, .ref ref, .ref ksc, .ref kle, .ref kto, .int 0])), (ref, .inl (cI, 7, .inl (fun _ => 0)))]) [0, 1] (by decide) rfl
  refine vx_calli (wc := [(h0, .inr (5, [.ref now, .ref mind, .ref lts, .ref told, .ref rdr, .ref sea, .ref way, .ref ref, .ref ksc, .ref kle, .ref kto, .int 0])), (ref, .inl (cI, 7, .inl (fun _ => 0)))]) (wr := [(now, .inr (2, [.int 0, .int 2, .int 1, .int 10, .int 0, .int 1, .ref nk0, .ref nk1, .ref nk2, .ref nk3, .ref nk4, .ref nk5, .ref nk6, .ref nk7, .ref nk8, .ref nk9]))]) hP hD hS hA [0, 1] [2] rfl rfl (by decide) (by decide) (va_runV (As := [.int (-1)]) (rest := []) ⟨hx, hb, hml, hown, hts⟩ (c_refuse1 l dC dI cI cC cZ _ h0 now mind lts told rdr sea way ref ksc kle kto 0 0 (fun _ => 0) rfl) (cwV 1 hts gX7_knows_X7_refuse rfl rfl rfl (by decide +kernel) ⟨Nat.le_of_ble_eq_true rfl, Nat.le_of_ble_eq_true rfl⟩) ⟨vx_blind, va_recv hK hPc (ci := 5) (q0 := 0) rfl rfl, vx_pre hK hPc hDc⟩ rfl rfl hl.1 rfl (lv_room (Nat.le_of_ble_eq_true rfl)) dX7_knows_13 ⟨Nat.le_of_ble_eq_true rfl, Nat.le_of_ble_eq_true rfl⟩) (fun r5 u4 H locs hw6 hP hD hS => ?_)
  have hP : va_P (dC, dI) vwCl [(now, .inr (2, [.int 0, .int 2, .int 1, .int 10, .int 0, .int 1, .ref nk0, .ref nk1, .ref nk2, .ref nk3, .ref nk4, .ref nk5, .ref nk6, .ref nk7, .ref nk8, .ref nk9])), (h0, .inr (5, [.ref now, .ref mind, .ref lts, .ref told, .ref rdr, .ref sea, .ref way, .ref ref, .ref ksc, .ref kle, .ref kto, .int 0])), (ref, .inl (cI, 7, .inl (upd (fun _ => 0) 1 1)))] H := hP
  have hD : va_D A [(now, .inr (2, [.int 0, .int 2, .int 1, .int 10, .int 0, .int 1, .ref nk0, .ref nk1, .ref nk2, .ref nk3, .ref nk4, .ref nk5, .ref nk6, .ref nk7, .ref nk8, .ref nk9])), (h0, .inr (5, [.ref now, .ref mind, .ref lts, .ref told, .ref rdr, .ref sea, .ref way, .ref ref, .ref ksc, .ref kle, .ref kto, .int 0])), (ref, .inl (cI, 7, .inl (upd (fun _ => 0) 1 1)))] := hD
  have er5 : (-1) = r5 := Eq.symm hw6
  subst er5
  exact vx_iret (u := ()) hx hb hr hlocks hK hP hD hS [] rfl (by decide) rfl dX7_knows_16
set_option maxHeartbeats 4000000 in
set_option maxRecDepth 100000 in
theorem t_mark (l : Launch) (dC : Nat → ClassId) (dI : Nat → Nat → Nat) (cI cC cZ : ClassId) (sz : Nat) (h0 now mind lts told rdr sea way ref ksc kle kto nk0 nk1 nk2 nk3 nk4 nk5 nk6 nk7 nk8 nk9 : Nat) (a : Int32) : Met l yX7_mark wsX7_mark ({ frames := 1, cells := 0, slots := 0, locals := 21 }) (va_Pc [.ref h0, .int a] (vx_B (dC, dI) (vx_T cI cC cZ) sz [(h0, .inr (5, [.ref now, .ref mind, .ref lts, .ref told, .ref rdr, .ref sea, .ref way, .ref ref, .ref ksc, .ref kle, .ref kto, .int 0])), (ref, .inl (cI, 7, .inl (fun _ => 0))), (now, .inr (2, [.int 0, .int 2, .int 1, .int 10, .int 0, .int 1, .ref nk0, .ref nk1, .ref nk2, .ref nk3, .ref nk4, .ref nk5, .ref nk6, .ref nk7, .ref nk8, .ref nk9]))])) (va_Qi (fun (r : Int32) (_ : Unit) => r = (-1)) (vx_C (dC, dI) (vx_T cI cC cZ) (va_A [(h0, .inr (5, [.ref now, .ref mind, .ref lts, .ref told, .ref rdr, .ref sea, .ref way, .ref ref, .ref ksc, .ref kle, .ref kto, .int 0])), (ref, .inl (cI, 7, .inl (fun _ => 0))), (now, .inr (2, [.int 0, .int 2, .int 1, .int 10, .int 0, .int 1, .ref nk0, .ref nk1, .ref nk2, .ref nk3, .ref nk4, .ref nk5, .ref nk6, .ref nk7, .ref nk8, .ref nk9]))] sz) (fun (u : Unit) => [])) (va_A [(h0, .inr (5, [.ref now, .ref mind, .ref lts, .ref told, .ref rdr, .ref sea, .ref way, .ref ref, .ref ksc, .ref kle, .ref kto, .int 0])), (ref, .inl (cI, 7, .inl (fun _ => 0))), (now, .inr (2, [.int 0, .int 2, .int 1, .int 10, .int 0, .int 1, .ref nk0, .ref nk1, .ref nk2, .ref nk3, .ref nk4, .ref nk5, .ref nk6, .ref nk7, .ref nk8, .ref nk9]))] sz)) 0 0 (va_A [(h0, .inr (5, [.ref now, .ref mind, .ref lts, .ref told, .ref rdr, .ref sea, .ref way, .ref ref, .ref ksc, .ref kle, .ref kto, .int 0])), (ref, .inl (cI, 7, .inl (fun _ => 0))), (now, .inr (2, [.int 0, .int 2, .int 1, .int 10, .int 0, .int 1, .ref nk0, .ref nk1, .ref nk2, .ref nk3, .ref nk4, .ref nk5, .ref nk6, .ref nk7, .ref nk8, .ref nk9]))] sz) := by
  refine Met.ofW (cc := cX7_mark) (maxL := 2) (ret := (some .int)) (by decide) rfl ?_
  intro p e s m args below meth c s₁ B hml hv
  obtain ⟨rfl, hsz, hP, hK, hD0⟩ := hv
  have hx := B.exec
  have hb := B.bytes
  have hr := B.returns
  have hts := atoms_spec (ws := wsX7_mark) B.pre
  have hown : s.vm.findClass RX7 = some m.cls := findClass_of_methodNamed B.named
  have hlocks := B.notSynchronized
  subst hsz
  have hD := hD0.self (sz := s.heap.size)
  generalize hAe : va_A [(h0, .inr (5, [.ref now, .ref mind, .ref lts, .ref told, .ref rdr, .ref sea, .ref way, .ref ref, .ref ksc, .ref kle, .ref kto, .int 0])), (ref, .inl (cI, 7, .inl (fun _ => 0))), (now, .inr (2, [.int 0, .int 2, .int 1, .int 10, .int 0, .int 1, .ref nk0, .ref nk1, .ref nk2, .ref nk3, .ref nk4, .ref nk5, .ref nk6, .ref nk7, .ref nk8, .ref nk9]))] s.heap.size = A at hD ⊢
  have hA : ∀ q : Nat, s.heap.size ≤ q → A q := fun q h => by rw [← hAe]; exact Or.inr h
  have hS : va_S A s.heap s.heap [] := va_S.rf
  have hl := lv_entry ([.ref h0, .int a]) (n := 2) (Nat.le_of_ble_eq_true rfl)
  rw [lg_entry_eq]
  generalize (lg_sl ([.ref h0, .int a]) ++ List.replicate (2 - (lg_sl ([.ref h0, .int a])).length) Slot.unset).toArray = ls at hl ⊢
  have hl : lv_has ls 2 [(0, .ref h0), (1, .int a)] := hl
  have iX7 : ∀ w ∈ u_ws RX7 TX7 12, w ∈ wsX7_mark := by decide +kernel
  refine lv_aload_n hx hb dX7_mark_0 rfl (lv_at hl 0 rfl) ?_
  refine va_get (D := (dC, dI)) (ci := 5) (v := .ref now) (C := RX7) (T := TX7) (N := 12) hx hb hts iX7 hown hK hP 0 rfl rfl 0 (by decide) (hts (.fieldLink RX7 10 "NeighboursMark" "now" "LNeighboursMark$School;") (by decide +kernel)) (fun _ h9 => h9) rfl dX7_mark_1 ?_
  refine lv_iload_n hx hb dX7_mark_4 rfl (lv_at hl 1 rfl) ?_
  have hPc := hP.sub (ws' := [(now, .inr (2, [.int 0, .int 2, .int 1, .int 10, .int 0, .int 1, .ref nk0, .ref nk1, .ref nk2, .ref nk3, .ref nk4, .ref nk5, .ref nk6, .ref nk7, .ref nk8, .ref nk9]))]) [2] rfl
  have hDc := hD.sub (ws' := [(now, .inr (2, [.int 0, .int 2, .int 1, .int 10, .int 0, .int 1, .ref nk0, .ref nk1, .ref nk2, .ref nk3, .ref nk4, .ref nk5, .ref nk6, .ref nk7, .ref nk8, .ref nk9]))]) [2] (by decide) rfl
  refine vx_calli (wc := [(now, .inr (2, [.int 0, .int 2, .int 1, .int 10, .int 0, .int 1, .ref nk0, .ref nk1, .ref nk2, .ref nk3, .ref nk4, .ref nk5, .ref nk6, .ref nk7, .ref nk8, .ref nk9]))]) (wr := [(h0, .inr (5, [.ref now, .ref mind, .ref lts, .ref told, .ref rdr, .ref sea, .ref way, .ref ref, .ref ksc, .ref kle, .ref kto, .int 0])), (ref, .inl (cI, 7, .inl (fun _ => 0)))]) hP hD hS hA [2] [0, 1] rfl rfl (by decide) (by decide) (va_runV (As := [.int a]) (rest := []) ⟨hx, hb, hml, hown, hts⟩ (c_has l dC dI cI cC cZ _ now nk0 nk1 nk2 nk3 nk4 nk5 nk6 nk7 nk8 nk9 2 1 10 0 a) (cwV 1 hts gX7_mark_X3_has rfl rfl rfl (by decide +kernel) ⟨Nat.le_of_ble_eq_true rfl, Nat.le_of_ble_eq_true rfl⟩) ⟨vx_blind, va_recv hK hPc (ci := 2) (q0 := 0) rfl rfl, vx_pre hK hPc hDc⟩ rfl rfl hl.1 rfl (lv_room (Nat.le_of_ble_eq_true rfl)) dX7_mark_5 ⟨Nat.le_of_ble_eq_true rfl, Nat.le_of_ble_eq_true rfl⟩) (fun r2 u1 H locs hw3 hP hD hS => ?_)
  have hP : va_P (dC, dI) vwCl [(h0, .inr (5, [.ref now, .ref mind, .ref lts, .ref told, .ref rdr, .ref sea, .ref way, .ref ref, .ref ksc, .ref kle, .ref kto, .int 0])), (ref, .inl (cI, 7, .inl (fun _ => 0))), (now, .inr (2, [.int 0, .int 2, .int 1, .int 10, .int 0, .int 1, .ref nk0, .ref nk1, .ref nk2, .ref nk3, .ref nk4, .ref nk5, .ref nk6, .ref nk7, .ref nk8, .ref nk9]))] H := hP
  have hD : va_D A [(h0, .inr (5, [.ref now, .ref mind, .ref lts, .ref told, .ref rdr, .ref sea, .ref way, .ref ref, .ref ksc, .ref kle, .ref kto, .int 0])), (ref, .inl (cI, 7, .inl (fun _ => 0))), (now, .inr (2, [.int 0, .int 2, .int 1, .int 10, .int 0, .int 1, .ref nk0, .ref nk1, .ref nk2, .ref nk3, .ref nk4, .ref nk5, .ref nk6, .ref nk7, .ref nk8, .ref nk9]))] := hD
  have er2 : 0 = r2 := Eq.symm hw3
  subst er2
  refine lv_if_ne (tgt := 17) hx hb dX7_mark_8 (by decide) (fun c0 => absurd (by decide) c0) (fun _ => ?_)
  refine lv_aload_n hx hb dX7_mark_11 rfl (lv_at hl 0 rfl) ?_
  refine lv_iconst (v := (-1)) hx hb dX7_mark_12 (by decide) ?_
  have hPc := hP.sub (ws' := [(h0, .inr (5, [.ref now, .ref mind, .ref lts, .ref told, .ref rdr, .ref sea, .ref way, .ref ref, .ref ksc, .ref kle, .ref kto, .int 0])), (ref, .inl (cI, 7, .inl (fun _ => 0)))]) [0, 1] rfl
  have hDc := hD.sub (ws' := [(h0, .inr (5, [.ref now, .ref mind, .ref lts, .ref told, .ref rdr, .ref sea, .ref way, .ref ref, .ref ksc, .ref kle, .ref kto, .int 0])), (ref, .inl (cI, 7, .inl (fun _ => 0)))]) [0, 1] (by decide) rfl
  refine vx_calli (wc := [(h0, .inr (5, [.ref now, .ref mind, .ref lts, .ref told, .ref rdr, .ref sea, .ref way, .ref ref, .ref ksc, .ref kle, .ref kto, .int 0])), (ref, .inl (cI, 7, .inl (fun _ => 0)))]) (wr := [(now, .inr (2, [.int 0, .int 2, .int 1, .int 10, .int 0, .int 1, .ref nk0, .ref nk1, .ref nk2, .ref nk3, .ref nk4, .ref nk5, .ref nk6, .ref nk7, .ref nk8, .ref nk9]))]) hP hD hS hA [0, 1] [2] rfl rfl (by decide) (by decide) (va_runV (As := [.int (-1)]) (rest := []) ⟨hx, hb, hml, hown, hts⟩ (c_refuse1 l dC dI cI cC cZ _ h0 now mind lts told rdr sea way ref ksc kle kto 0 0 (fun _ => 0) rfl) (cwV 1 hts gX7_mark_X7_refuse rfl rfl rfl (by decide +kernel) ⟨Nat.le_of_ble_eq_true rfl, Nat.le_of_ble_eq_true rfl⟩) ⟨vx_blind, va_recv hK hPc (ci := 5) (q0 := 0) rfl rfl, vx_pre hK hPc hDc⟩ rfl rfl hl.1 rfl (lv_room (Nat.le_of_ble_eq_true rfl)) dX7_mark_13 ⟨Nat.le_of_ble_eq_true rfl, Nat.le_of_ble_eq_true rfl⟩) (fun r5 u4 H locs hw6 hP hD hS => ?_)
  have hP : va_P (dC, dI) vwCl [(now, .inr (2, [.int 0, .int 2, .int 1, .int 10, .int 0, .int 1, .ref nk0, .ref nk1, .ref nk2, .ref nk3, .ref nk4, .ref nk5, .ref nk6, .ref nk7, .ref nk8, .ref nk9])), (h0, .inr (5, [.ref now, .ref mind, .ref lts, .ref told, .ref rdr, .ref sea, .ref way, .ref ref, .ref ksc, .ref kle, .ref kto, .int 0])), (ref, .inl (cI, 7, .inl (upd (fun _ => 0) 1 1)))] H := hP
  have hD : va_D A [(now, .inr (2, [.int 0, .int 2, .int 1, .int 10, .int 0, .int 1, .ref nk0, .ref nk1, .ref nk2, .ref nk3, .ref nk4, .ref nk5, .ref nk6, .ref nk7, .ref nk8, .ref nk9])), (h0, .inr (5, [.ref now, .ref mind, .ref lts, .ref told, .ref rdr, .ref sea, .ref way, .ref ref, .ref ksc, .ref kle, .ref kto, .int 0])), (ref, .inl (cI, 7, .inl (upd (fun _ => 0) 1 1)))] := hD
  have er5 : (-1) = r5 := Eq.symm hw6
  subst er5
  exact vx_iret (u := ()) hx hb hr hlocks hK hP hD hS [] rfl (by decide) rfl dX7_mark_16
set_option maxHeartbeats 4000000 in
set_option maxRecDepth 100000 in
theorem t_passed (l : Launch) (dC : Nat → ClassId) (dI : Nat → Nat → Nat) (cI cC cZ : ClassId) (sz : Nat) (h0 now mind lts told rdr sea way ref ksc kle kto nk0 nk1 nk2 nk3 nk4 nk5 nk6 nk7 nk8 nk9 : Nat) : Met l yX7_passed wsX7_passed ({ frames := 1, cells := 0, slots := 0, locals := 22 }) (va_Pc [.ref h0] (vx_B (dC, dI) (vx_T cI cC cZ) sz [(h0, .inr (5, [.ref now, .ref mind, .ref lts, .ref told, .ref rdr, .ref sea, .ref way, .ref ref, .ref ksc, .ref kle, .ref kto, .int 0])), (now, .inr (2, [.int 0, .int 2, .int 1, .int 10, .int 0, .int 1, .ref nk0, .ref nk1, .ref nk2, .ref nk3, .ref nk4, .ref nk5, .ref nk6, .ref nk7, .ref nk8, .ref nk9]))])) (va_Qi (fun (r : Int32) (_ : Unit) => r = 0) (vx_C (dC, dI) (vx_T cI cC cZ) (va_A [(h0, .inr (5, [.ref now, .ref mind, .ref lts, .ref told, .ref rdr, .ref sea, .ref way, .ref ref, .ref ksc, .ref kle, .ref kto, .int 0])), (now, .inr (2, [.int 0, .int 2, .int 1, .int 10, .int 0, .int 1, .ref nk0, .ref nk1, .ref nk2, .ref nk3, .ref nk4, .ref nk5, .ref nk6, .ref nk7, .ref nk8, .ref nk9]))] sz) (fun (u : Unit) => [])) (va_A [(h0, .inr (5, [.ref now, .ref mind, .ref lts, .ref told, .ref rdr, .ref sea, .ref way, .ref ref, .ref ksc, .ref kle, .ref kto, .int 0])), (now, .inr (2, [.int 0, .int 2, .int 1, .int 10, .int 0, .int 1, .ref nk0, .ref nk1, .ref nk2, .ref nk3, .ref nk4, .ref nk5, .ref nk6, .ref nk7, .ref nk8, .ref nk9]))] sz)) 0 0 (va_A [(h0, .inr (5, [.ref now, .ref mind, .ref lts, .ref told, .ref rdr, .ref sea, .ref way, .ref ref, .ref ksc, .ref kle, .ref kto, .int 0])), (now, .inr (2, [.int 0, .int 2, .int 1, .int 10, .int 0, .int 1, .ref nk0, .ref nk1, .ref nk2, .ref nk3, .ref nk4, .ref nk5, .ref nk6, .ref nk7, .ref nk8, .ref nk9]))] sz) := by
  refine Met.ofW (cc := cX7_passed) (maxL := 1) (ret := (some .int)) (by decide) rfl ?_
  intro p e s m args below meth c s₁ B hml hv
  obtain ⟨rfl, hsz, hP, hK, hD0⟩ := hv
  have hx := B.exec
  have hb := B.bytes
  have hr := B.returns
  have hts := atoms_spec (ws := wsX7_passed) B.pre
  have hown : s.vm.findClass RX7 = some m.cls := findClass_of_methodNamed B.named
  have hlocks := B.notSynchronized
  subst hsz
  have hD := hD0.self (sz := s.heap.size)
  generalize hAe : va_A [(h0, .inr (5, [.ref now, .ref mind, .ref lts, .ref told, .ref rdr, .ref sea, .ref way, .ref ref, .ref ksc, .ref kle, .ref kto, .int 0])), (now, .inr (2, [.int 0, .int 2, .int 1, .int 10, .int 0, .int 1, .ref nk0, .ref nk1, .ref nk2, .ref nk3, .ref nk4, .ref nk5, .ref nk6, .ref nk7, .ref nk8, .ref nk9]))] s.heap.size = A at hD ⊢
  have hA : ∀ q : Nat, s.heap.size ≤ q → A q := fun q h => by rw [← hAe]; exact Or.inr h
  have hS : va_S A s.heap s.heap [] := va_S.rf
  have hl := lv_entry ([.ref h0]) (n := 1) (Nat.le_of_ble_eq_true rfl)
  rw [lg_entry_eq]
  generalize (lg_sl ([.ref h0]) ++ List.replicate (1 - (lg_sl ([.ref h0])).length) Slot.unset).toArray = ls at hl ⊢
  have hl : lv_has ls 1 [(0, .ref h0)] := hl
  have iX7 : ∀ w ∈ u_ws RX7 TX7 12, w ∈ wsX7_passed := by decide +kernel
  refine lv_aload_n hx hb dX7_passed_0 rfl (lv_at hl 0 rfl) ?_
  refine va_get (D := (dC, dI)) (ci := 5) (v := .ref now) (C := RX7) (T := TX7) (N := 12) hx hb hts iX7 hown hK hP 0 rfl rfl 0 (by decide) (hts (.fieldLink RX7 10 "NeighboursMark" "now" "LNeighboursMark$School;") (by decide +kernel)) (fun _ h9 => h9) rfl dX7_passed_1 ?_
  have hPc := hP.sub (ws' := [(now, .inr (2, [.int 0, .int 2, .int 1, .int 10, .int 0, .int 1, .ref nk0, .ref nk1, .ref nk2, .ref nk3, .ref nk4, .ref nk5, .ref nk6, .ref nk7, .ref nk8, .ref nk9]))]) [1] rfl
  have hDc := hD.sub (ws' := [(now, .inr (2, [.int 0, .int 2, .int 1, .int 10, .int 0, .int 1, .ref nk0, .ref nk1, .ref nk2, .ref nk3, .ref nk4, .ref nk5, .ref nk6, .ref nk7, .ref nk8, .ref nk9]))]) [1] (by decide) rfl
  refine vx_calli (wc := [(now, .inr (2, [.int 0, .int 2, .int 1, .int 10, .int 0, .int 1, .ref nk0, .ref nk1, .ref nk2, .ref nk3, .ref nk4, .ref nk5, .ref nk6, .ref nk7, .ref nk8, .ref nk9]))]) (wr := [(h0, .inr (5, [.ref now, .ref mind, .ref lts, .ref told, .ref rdr, .ref sea, .ref way, .ref ref, .ref ksc, .ref kle, .ref kto, .int 0]))]) hP hD hS hA [1] [0] rfl rfl (by decide) (by decide) (va_runS (As := [.ref now]) (rest := []) ⟨hx, hb, hml, hown, hts⟩ (c_passed l dC dI cI cC cZ _ now nk0 nk1 nk2 nk3 nk4 nk5 nk6 nk7 nk8 nk9 2 1 10 0) (va_cwS 1 hts gX7_passed_X0_passedBits rfl rfl rfl (by decide +kernel) ⟨Nat.le_of_ble_eq_true rfl, Nat.le_of_ble_eq_true rfl⟩) ⟨vx_blind, vx_pre hK hPc hDc⟩ rfl rfl hl.1 rfl (lv_room (Nat.le_of_ble_eq_true rfl)) dX7_passed_4 ⟨Nat.le_of_ble_eq_true rfl, Nat.le_of_ble_eq_true rfl⟩) (fun r2 u1 H locs hw3 hP hD hS => ?_)
  have hP : va_P (dC, dI) vwCl [(h0, .inr (5, [.ref now, .ref mind, .ref lts, .ref told, .ref rdr, .ref sea, .ref way, .ref ref, .ref ksc, .ref kle, .ref kto, .int 0])), (now, .inr (2, [.int 0, .int 2, .int 1, .int 10, .int 0, .int 1, .ref nk0, .ref nk1, .ref nk2, .ref nk3, .ref nk4, .ref nk5, .ref nk6, .ref nk7, .ref nk8, .ref nk9]))] H := hP
  have hD : va_D A [(h0, .inr (5, [.ref now, .ref mind, .ref lts, .ref told, .ref rdr, .ref sea, .ref way, .ref ref, .ref ksc, .ref kle, .ref kto, .int 0])), (now, .inr (2, [.int 0, .int 2, .int 1, .int 10, .int 0, .int 1, .ref nk0, .ref nk1, .ref nk2, .ref nk3, .ref nk4, .ref nk5, .ref nk6, .ref nk7, .ref nk8, .ref nk9]))] := hD
  have er2 : 0 = r2 := Eq.symm hw3
  subst er2
  exact vx_iret (u := ()) hx hb hr hlocks hK hP hD hS [] rfl (by decide) rfl dX7_passed_7
set_option maxHeartbeats 4000000 in
set_option maxRecDepth 100000 in
theorem t_all (l : Launch) (dC : Nat → ClassId) (dI : Nat → Nat → Nat) (cI cC cZ : ClassId) (sz : Nat) (h0 now mind lts told rdr sea way ref ksc kle kto nk0 nk1 nk2 nk3 nk4 nk5 nk6 nk7 nk8 nk9 : Nat) : Met l yX7_all wsX7_all ({ frames := 3, cells := 0, slots := 0, locals := 64 }) (va_Pc [.ref h0] (vx_B (dC, dI) (vx_T cI cC cZ) sz [(h0, .inr (5, [.ref now, .ref mind, .ref lts, .ref told, .ref rdr, .ref sea, .ref way, .ref ref, .ref ksc, .ref kle, .ref kto, .int 0])), (now, .inr (2, [.int 0, .int 2, .int 1, .int 10, .int 0, .int 1, .ref nk0, .ref nk1, .ref nk2, .ref nk3, .ref nk4, .ref nk5, .ref nk6, .ref nk7, .ref nk8, .ref nk9]))])) (va_Qi (fun (r : Int32) (_ : Unit) => r = 0) (vx_C (dC, dI) (vx_T cI cC cZ) (va_A [(h0, .inr (5, [.ref now, .ref mind, .ref lts, .ref told, .ref rdr, .ref sea, .ref way, .ref ref, .ref ksc, .ref kle, .ref kto, .int 0])), (now, .inr (2, [.int 0, .int 2, .int 1, .int 10, .int 0, .int 1, .ref nk0, .ref nk1, .ref nk2, .ref nk3, .ref nk4, .ref nk5, .ref nk6, .ref nk7, .ref nk8, .ref nk9]))] sz) (fun (u : Unit) => [])) (va_A [(h0, .inr (5, [.ref now, .ref mind, .ref lts, .ref told, .ref rdr, .ref sea, .ref way, .ref ref, .ref ksc, .ref kle, .ref kto, .int 0])), (now, .inr (2, [.int 0, .int 2, .int 1, .int 10, .int 0, .int 1, .ref nk0, .ref nk1, .ref nk2, .ref nk3, .ref nk4, .ref nk5, .ref nk6, .ref nk7, .ref nk8, .ref nk9]))] sz)) 0 0 (va_A [(h0, .inr (5, [.ref now, .ref mind, .ref lts, .ref told, .ref rdr, .ref sea, .ref way, .ref ref, .ref ksc, .ref kle, .ref kto, .int 0])), (now, .inr (2, [.int 0, .int 2, .int 1, .int 10, .int 0, .int 1, .ref nk0, .ref nk1, .ref nk2, .ref nk3, .ref nk4, .ref nk5, .ref nk6, .ref nk7, .ref nk8, .ref nk9]))] sz) := by
  refine Met.ofW (cc := cX7_all) (maxL := 1) (ret := (some .int)) (by decide) rfl ?_
  intro p e s m args below meth c s₁ B hml hv
  obtain ⟨rfl, hsz, hP, hK, hD0⟩ := hv
  have hx := B.exec
  have hb := B.bytes
  have hr := B.returns
  have hts := atoms_spec (ws := wsX7_all) B.pre
  have hown : s.vm.findClass RX7 = some m.cls := findClass_of_methodNamed B.named
  have hlocks := B.notSynchronized
  subst hsz
  have hD := hD0.self (sz := s.heap.size)
  generalize hAe : va_A [(h0, .inr (5, [.ref now, .ref mind, .ref lts, .ref told, .ref rdr, .ref sea, .ref way, .ref ref, .ref ksc, .ref kle, .ref kto, .int 0])), (now, .inr (2, [.int 0, .int 2, .int 1, .int 10, .int 0, .int 1, .ref nk0, .ref nk1, .ref nk2, .ref nk3, .ref nk4, .ref nk5, .ref nk6, .ref nk7, .ref nk8, .ref nk9]))] s.heap.size = A at hD ⊢
  have hA : ∀ q : Nat, s.heap.size ≤ q → A q := fun q h => by rw [← hAe]; exact Or.inr h
  have hS : va_S A s.heap s.heap [] := va_S.rf
  have hl := lv_entry ([.ref h0]) (n := 1) (Nat.le_of_ble_eq_true rfl)
  rw [lg_entry_eq]
  generalize (lg_sl ([.ref h0]) ++ List.replicate (1 - (lg_sl ([.ref h0])).length) Slot.unset).toArray = ls at hl ⊢
  have hl : lv_has ls 1 [(0, .ref h0)] := hl
  have iX7 : ∀ w ∈ u_ws RX7 TX7 12, w ∈ wsX7_all := by decide +kernel
  refine lv_aload_n hx hb dX7_all_0 rfl (lv_at hl 0 rfl) ?_
  refine va_get (D := (dC, dI)) (ci := 5) (v := .ref now) (C := RX7) (T := TX7) (N := 12) hx hb hts iX7 hown hK hP 0 rfl rfl 0 (by decide) (hts (.fieldLink RX7 10 "NeighboursMark" "now" "LNeighboursMark$School;") (by decide +kernel)) (fun _ h9 => h9) rfl dX7_all_1 ?_
  have hPc := hP.sub (ws' := [(now, .inr (2, [.int 0, .int 2, .int 1, .int 10, .int 0, .int 1, .ref nk0, .ref nk1, .ref nk2, .ref nk3, .ref nk4, .ref nk5, .ref nk6, .ref nk7, .ref nk8, .ref nk9]))]) [1] rfl
  have hDc := hD.sub (ws' := [(now, .inr (2, [.int 0, .int 2, .int 1, .int 10, .int 0, .int 1, .ref nk0, .ref nk1, .ref nk2, .ref nk3, .ref nk4, .ref nk5, .ref nk6, .ref nk7, .ref nk8, .ref nk9]))]) [1] (by decide) rfl
  refine vx_calli (wc := [(now, .inr (2, [.int 0, .int 2, .int 1, .int 10, .int 0, .int 1, .ref nk0, .ref nk1, .ref nk2, .ref nk3, .ref nk4, .ref nk5, .ref nk6, .ref nk7, .ref nk8, .ref nk9]))]) (wr := [(h0, .inr (5, [.ref now, .ref mind, .ref lts, .ref told, .ref rdr, .ref sea, .ref way, .ref ref, .ref ksc, .ref kle, .ref kto, .int 0]))]) hP hD hS hA [1] [0] rfl rfl (by decide) (by decide) (va_runS (As := [.ref now]) (rest := []) ⟨hx, hb, hml, hown, hts⟩ (c_sum l dC dI cI cC cZ _ now nk0 nk1 nk2 nk3 nk4 nk5 nk6 nk7 nk8 nk9 2 1 10 0) (va_cwS 1 hts gX7_all_X0_sumOfMarks rfl rfl rfl (by decide +kernel) ⟨Nat.le_of_ble_eq_true rfl, Nat.le_of_ble_eq_true rfl⟩) ⟨vx_blind, vx_pre hK hPc hDc⟩ rfl rfl hl.1 rfl (lv_room (Nat.le_of_ble_eq_true rfl)) dX7_all_4 ⟨Nat.le_of_ble_eq_true rfl, Nat.le_of_ble_eq_true rfl⟩) (fun r2 u1 H locs hw3 hP hD hS => ?_)
  have hP : va_P (dC, dI) vwCl [(h0, .inr (5, [.ref now, .ref mind, .ref lts, .ref told, .ref rdr, .ref sea, .ref way, .ref ref, .ref ksc, .ref kle, .ref kto, .int 0])), (now, .inr (2, [.int 0, .int 2, .int 1, .int 10, .int 0, .int 1, .ref nk0, .ref nk1, .ref nk2, .ref nk3, .ref nk4, .ref nk5, .ref nk6, .ref nk7, .ref nk8, .ref nk9]))] H := hP
  have hD : va_D A [(h0, .inr (5, [.ref now, .ref mind, .ref lts, .ref told, .ref rdr, .ref sea, .ref way, .ref ref, .ref ksc, .ref kle, .ref kto, .int 0])), (now, .inr (2, [.int 0, .int 2, .int 1, .int 10, .int 0, .int 1, .ref nk0, .ref nk1, .ref nk2, .ref nk3, .ref nk4, .ref nk5, .ref nk6, .ref nk7, .ref nk8, .ref nk9]))] := hD
  have er2 : 0 = r2 := Eq.symm hw3
  subst er2
  exact vx_iret (u := ()) hx hb hr hlocks hK hP hD hS [] rfl (by decide) rfl dX7_all_7
