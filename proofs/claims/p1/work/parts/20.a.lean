abbrev vx_T (cI cC cZ : ClassId) : List (ClassId × FieldType) := [(cI, .int), (cC, .char), (cZ, .boolean)]
def f_letter (a : Int32) : Int32 := if a < 0 then -4 else if 255 < a then -6 else 1
def f_law (a : Int32) : Int32 := if a < 0 then -2 else if 6 < a then -2 else 1
def f_pass (a : Int32) : Int32 := if a < 0 then -4 else if 99 < a then -6 else 10
def f_after (a : Int32) (b : Int32) : Int32 := if a = -1 then (if b < 0 then -4 else if 40 < b then -6 else 0) else -1
def f_best (a : Int32) : Int32 := if a < 0 then -2 else if 1 < a then -2 else -3
def f_bestSeat (a : Int32) : Int32 := if a < 0 then -4 else -9
def f_rests (a : Int32) : Int32 := if a < 0 then -2 else if 1 < a then -2 else if a = 0 then 1 else 0
def f_byLaw (a : Int32) : Int32 := if a < 0 then -2 else if 6 < a then -2 else 0
def f_mends (a : Int32) : Int32 := if a < 0 then -1 else if 0 < a then -1 else 0
def f_row (a : Int32) : Int32 := if a < 0 then -4 else if 99 < a then -6 else 1
def f_fitting (a : Int32) : Int32 := if a < -1 then -4 else if a = -1 then 1 else -9
def f_seeds (a : Int32) : Int32 := if a < 1 then -4 else if 20 < a then -6 else -3
def f_count (a : Int32) : Int32 := if a = 1 then 2 else if a = 3 then 1 else if a = 4 then 10 else if a = 5 then 1 else if a < 0 then -9 else if a < 8 then 0 else if a < 11 then -9 else if 16 < a then -9 else 0
theorem zz_c_has_0 (pp : Int32) (h0 : ¬ pp < (0 : Int32)) (h1 : ¬ (0 : Int32) ≤ pp) : False := by
  have e0 : (0 : Int32).toInt = 0 := by decide
  try simp only [Int32.lt_iff_toInt_lt, Int32.le_iff_toInt_le, ← Int32.toInt_inj, e0] at h0
  try simp only [Int32.lt_iff_toInt_lt, Int32.le_iff_toInt_le, ← Int32.toInt_inj, e0] at h1
  omega
set_option maxHeartbeats 4000000 in
set_option maxRecDepth 100000 in
theorem c_has (l : Launch) (dC : Nat → ClassId) (dI : Nat → Nat → Nat) (cI cC cZ : ClassId) (sz : Nat) (h0 ak0 ak1 ak2 ak3 ak4 ak5 ak6 ak7 ak8 ak9 : Nat) (ahv alw apv awk pp : Int32) : Met l yX3_has wsX3_has ({ frames := 0, cells := 0, slots := 0, locals := 0 }) (va_Pc [.ref h0, .int pp] (vx_B (dC, dI) (vx_T cI cC cZ) sz [(h0, .inr (2, [.int 0, .int ahv, .int alw, .int apv, .int awk, .int 1, .ref ak0, .ref ak1, .ref ak2, .ref ak3, .ref ak4, .ref ak5, .ref ak6, .ref ak7, .ref ak8, .ref ak9]))])) (va_Qi (fun (r : Int32) (_ : Unit) => r = 0) (vx_C (dC, dI) (vx_T cI cC cZ) (va_A [(h0, .inr (2, [.int 0, .int ahv, .int alw, .int apv, .int awk, .int 1, .ref ak0, .ref ak1, .ref ak2, .ref ak3, .ref ak4, .ref ak5, .ref ak6, .ref ak7, .ref ak8, .ref ak9]))] sz) (fun (u : Unit) => [(h0, .inr (2, [.int 0, .int ahv, .int alw, .int apv, .int awk, .int 1, .ref ak0, .ref ak1, .ref ak2, .ref ak3, .ref ak4, .ref ak5, .ref ak6, .ref ak7, .ref ak8, .ref ak9]))])) (va_A [(h0, .inr (2, [.int 0, .int ahv, .int alw, .int apv, .int awk, .int 1, .ref ak0, .ref ak1, .ref ak2, .ref ak3, .ref ak4, .ref ak5, .ref ak6, .ref ak7, .ref ak8, .ref ak9]))] sz)) 0 0 (va_A [(h0, .inr (2, [.int 0, .int ahv, .int alw, .int apv, .int awk, .int 1, .ref ak0, .ref ak1, .ref ak2, .ref ak3, .ref ak4, .ref ak5, .ref ak6, .ref ak7, .ref ak8, .ref ak9]))] sz) := by
  refine Met.ofW (cc := cX3_has) (maxL := 2) (ret := (some .boolean)) (by decide) rfl ?_
  intro p e s m args below meth c s₁ B hml hv
  obtain ⟨rfl, hsz, hP, hK, hD0⟩ := hv
  have hx := B.exec
  have hb := B.bytes
  have hr := B.returns
  have hts := atoms_spec (ws := wsX3_has) B.pre
  have hown : s.vm.findClass RX3 = some m.cls := findClass_of_methodNamed B.named
  have hlocks := B.notSynchronized
  subst hsz
  have hD := hD0.self (sz := s.heap.size)
  generalize hAe : va_A [(h0, .inr (2, [.int 0, .int ahv, .int alw, .int apv, .int awk, .int 1, .ref ak0, .ref ak1, .ref ak2, .ref ak3, .ref ak4, .ref ak5, .ref ak6, .ref ak7, .ref ak8, .ref ak9]))] s.heap.size = A at hD ⊢
  have hA : ∀ q : Nat, s.heap.size ≤ q → A q := fun q h => by rw [← hAe]; exact Or.inr h
  have hS : va_S A s.heap s.heap [] := va_S.rf
  have hl := lv_entry ([.ref h0, .int pp]) (n := 2) (Nat.le_of_ble_eq_true rfl)
  rw [lg_entry_eq]
  generalize (lg_sl ([.ref h0, .int pp]) ++ List.replicate (2 - (lg_sl ([.ref h0, .int pp])).length) Slot.unset).toArray = ls at hl ⊢
  have hl : lv_has ls 2 [(0, .ref h0), (1, .int pp)] := hl
  have iX3 : ∀ w ∈ u_ws RX3 TX3 16, w ∈ wsX3_has := by decide +kernel
  refine lv_iload_n hx hb dX3_has_0 rfl (lv_at hl 1 rfl) ?_
  refine lv_if_lt (tgt := 16) hx hb dX3_has_1 (by decide) (fun c1 => ?_) (fun c1 => ?_)
  · skip
    refine lv_iconst (v := 0) hx hb dX3_has_16 (by decide) ?_
    exact vx_zret (u := ()) hx hb hr rfl hlocks hK hP hD hS [0] rfl (by decide) rfl dX3_has_17
  · skip
    refine lv_iload_n hx hb dX3_has_4 rfl (lv_at hl 1 rfl) ?_
    refine lv_aload_n hx hb dX3_has_5 rfl (lv_at hl 0 rfl) ?_
    refine va_get (D := (dC, dI)) (ci := 2) (v := .int 0) (C := RX3) (T := TX3) (N := 16) hx hb hts iX3 hown hK hP 0 rfl rfl 0 (by decide) (hts (.fieldLink RX3 9 "NeighboursMark$School" "count" "I") (by decide +kernel)) (fun _ h9 => h9) rfl dX3_has_6 ?_
    refine lv_icmp_ge (tgt := 16) hx hb dX3_has_9 (by decide) (fun c2 => ?_) (fun c2 => (zz_c_has_0 pp c1 c2).elim)
    refine lv_iconst (v := 0) hx hb dX3_has_16 (by decide) ?_
    exact vx_zret (u := ()) hx hb hr rfl hlocks hK hP hD hS [0] rfl (by decide) rfl dX3_has_17
set_option maxHeartbeats 4000000 in
set_option maxRecDepth 100000 in
theorem c_findN (l : Launch) (dC : Nat → ClassId) (dI : Nat → Nat → Nat) (cI cC cZ : ClassId) (sz : Nat) (h0 ak0 ak1 ak2 ak3 ak4 ak5 ak6 ak7 ak8 ak9 : Nat) (ahv alw apv awk : Int32) : Met l yX3_findNeighbours wsX3_findNeighbours ({ frames := 0, cells := 0, slots := 0, locals := 0 }) (va_Pc [.ref h0] (vx_B (dC, dI) (vx_T cI cC cZ) sz [(h0, .inr (2, [.int 0, .int ahv, .int alw, .int apv, .int awk, .int 1, .ref ak0, .ref ak1, .ref ak2, .ref ak3, .ref ak4, .ref ak5, .ref ak6, .ref ak7, .ref ak8, .ref ak9]))])) (va_Qv (fun (_ : Unit) => True) (vx_C (dC, dI) (vx_T cI cC cZ) (va_A [(h0, .inr (2, [.int 0, .int ahv, .int alw, .int apv, .int awk, .int 1, .ref ak0, .ref ak1, .ref ak2, .ref ak3, .ref ak4, .ref ak5, .ref ak6, .ref ak7, .ref ak8, .ref ak9]))] sz) (fun (u : Unit) => [(h0, .inr (2, [.int 0, .int ahv, .int alw, .int apv, .int awk, .int 1, .ref ak0, .ref ak1, .ref ak2, .ref ak3, .ref ak4, .ref ak5, .ref ak6, .ref ak7, .ref ak8, .ref ak9]))])) (va_A [(h0, .inr (2, [.int 0, .int ahv, .int alw, .int apv, .int awk, .int 1, .ref ak0, .ref ak1, .ref ak2, .ref ak3, .ref ak4, .ref ak5, .ref ak6, .ref ak7, .ref ak8, .ref ak9]))] sz)) 0 0 (va_A [(h0, .inr (2, [.int 0, .int ahv, .int alw, .int apv, .int awk, .int 1, .ref ak0, .ref ak1, .ref ak2, .ref ak3, .ref ak4, .ref ak5, .ref ak6, .ref ak7, .ref ak8, .ref ak9]))] sz) := by
  refine Met.ofW (cc := cX3_findNeighbours) (maxL := 5) (ret := none) (by decide) rfl ?_
  intro p e s m args below meth c s₁ B hml hv
  obtain ⟨rfl, hsz, hP, hK, hD0⟩ := hv
  have hx := B.exec
  have hb := B.bytes
  have hr := B.returns
  have hts := atoms_spec (ws := wsX3_findNeighbours) B.pre
  have hown : s.vm.findClass RX3 = some m.cls := findClass_of_methodNamed B.named
  have hlocks := B.notSynchronized
  subst hsz
  have hD := hD0.self (sz := s.heap.size)
  generalize hAe : va_A [(h0, .inr (2, [.int 0, .int ahv, .int alw, .int apv, .int awk, .int 1, .ref ak0, .ref ak1, .ref ak2, .ref ak3, .ref ak4, .ref ak5, .ref ak6, .ref ak7, .ref ak8, .ref ak9]))] s.heap.size = A at hD ⊢
  have hA : ∀ q : Nat, s.heap.size ≤ q → A q := fun q h => by rw [← hAe]; exact Or.inr h
  have hS : va_S A s.heap s.heap [] := va_S.rf
  have hl := lv_entry ([.ref h0]) (n := 5) (Nat.le_of_ble_eq_true rfl)
  rw [lg_entry_eq]
  generalize (lg_sl ([.ref h0]) ++ List.replicate (5 - (lg_sl ([.ref h0])).length) Slot.unset).toArray = ls at hl ⊢
  have hl : lv_has ls 5 [(0, .ref h0)] := hl
  have iX3 : ∀ w ∈ u_ws RX3 TX3 16, w ∈ wsX3_findNeighbours := by decide +kernel
  refine lv_iconst (v := 0) hx hb dX3_findNeighbours_0 (by decide) ?_
  refine lv_istore_n (lv' := [(1, .int 0), (0, .ref h0)]) hx hb dX3_findNeighbours_1 rfl hl (by decide) rfl (fun ls hl => ?_)
  refine lv_iload_n hx hb dX3_findNeighbours_2 rfl (lv_at hl 0 rfl) ?_
  refine lv_aload_n hx hb dX3_findNeighbours_3 rfl (lv_at hl 1 rfl) ?_
  refine va_get (D := (dC, dI)) (ci := 2) (v := .int 0) (C := RX3) (T := TX3) (N := 16) hx hb hts iX3 hown hK hP 0 rfl rfl 0 (by decide) (hts (.fieldLink RX3 9 "NeighboursMark$School" "count" "I") (by decide +kernel)) (fun _ h9 => h9) rfl dX3_findNeighbours_4 ?_
  refine lv_icmp_ge (tgt := 126) hx hb dX3_findNeighbours_7 (by decide) (fun _ => ?_) (fun c0 => absurd (by decide) c0)
  exact vx_vret (u := ()) hx hb hr hlocks hK hP hD hS [0] rfl (by decide) trivial dX3_findNeighbours_126
set_option maxHeartbeats 4000000 in
set_option maxRecDepth 100000 in
theorem c_sitBy (l : Launch) (dC : Nat → ClassId) (dI : Nat → Nat → Nat) (cI cC cZ : ClassId) (sz : Nat) (h0 ak0 ak1 ak2 ak3 ak4 ak5 ak6 ak7 ak8 ak9 : Nat) (ahv alw apv awk : Int32) : Met l yX3_sitByNumbers wsX3_sitByNumbers ({ frames := 1, cells := 0, slots := 0, locals := 24 }) (va_Pc [.ref h0] (vx_B (dC, dI) (vx_T cI cC cZ) sz [(h0, .inr (2, [.int 0, .int ahv, .int alw, .int apv, .int awk, .int 1, .ref ak0, .ref ak1, .ref ak2, .ref ak3, .ref ak4, .ref ak5, .ref ak6, .ref ak7, .ref ak8, .ref ak9]))])) (va_Qv (fun (_ : Unit) => True) (vx_C (dC, dI) (vx_T cI cC cZ) (va_A [(h0, .inr (2, [.int 0, .int ahv, .int alw, .int apv, .int awk, .int 1, .ref ak0, .ref ak1, .ref ak2, .ref ak3, .ref ak4, .ref ak5, .ref ak6, .ref ak7, .ref ak8, .ref ak9]))] sz) (fun (u : Unit) => [(h0, .inr (2, [.int 0, .int ahv, .int alw, .int apv, .int awk, .int 1, .ref ak0, .ref ak1, .ref ak2, .ref ak3, .ref ak4, .ref ak5, .ref ak6, .ref ak7, .ref ak8, .ref ak9]))])) (va_A [(h0, .inr (2, [.int 0, .int ahv, .int alw, .int apv, .int awk, .int 1, .ref ak0, .ref ak1, .ref ak2, .ref ak3, .ref ak4, .ref ak5, .ref ak6, .ref ak7, .ref ak8, .ref ak9]))] sz)) 0 0 (va_A [(h0, .inr (2, [.int 0, .int ahv, .int alw, .int apv, .int awk, .int 1, .ref ak0, .ref ak1, .ref ak2, .ref ak3, .ref ak4, .ref ak5, .ref ak6, .ref ak7, .ref ak8, .ref ak9]))] sz) := by
  refine Met.ofW (cc := cX3_sitByNumbers) (maxL := 2) (ret := none) (by decide) rfl ?_
  intro p e s m args below meth c s₁ B hml hv
  obtain ⟨rfl, hsz, hP, hK, hD0⟩ := hv
  have hx := B.exec
  have hb := B.bytes
  have hr := B.returns
  have hts := atoms_spec (ws := wsX3_sitByNumbers) B.pre
  have hown : s.vm.findClass RX3 = some m.cls := findClass_of_methodNamed B.named
  have hlocks := B.notSynchronized
  subst hsz
  have hD := hD0.self (sz := s.heap.size)
  generalize hAe : va_A [(h0, .inr (2, [.int 0, .int ahv, .int alw, .int apv, .int awk, .int 1, .ref ak0, .ref ak1, .ref ak2, .ref ak3, .ref ak4, .ref ak5, .ref ak6, .ref ak7, .ref ak8, .ref ak9]))] s.heap.size = A at hD ⊢
  have hA : ∀ q : Nat, s.heap.size ≤ q → A q := fun q h => by rw [← hAe]; exact Or.inr h
  have hS : va_S A s.heap s.heap [] := va_S.rf
  have hl := lv_entry ([.ref h0]) (n := 2) (Nat.le_of_ble_eq_true rfl)
  rw [lg_entry_eq]
  generalize (lg_sl ([.ref h0]) ++ List.replicate (2 - (lg_sl ([.ref h0])).length) Slot.unset).toArray = ls at hl ⊢
  have hl : lv_has ls 2 [(0, .ref h0)] := hl
  have iX3 : ∀ w ∈ u_ws RX3 TX3 16, w ∈ wsX3_sitByNumbers := by decide +kernel
  refine lv_iconst (v := 0) hx hb dX3_sitByNumbers_0 (by decide) ?_
  refine lv_istore_n (lv' := [(1, .int 0), (0, .ref h0)]) hx hb dX3_sitByNumbers_1 rfl hl (by decide) rfl (fun ls hl => ?_)
  refine lv_iload_n hx hb dX3_sitByNumbers_2 rfl (lv_at hl 0 rfl) ?_
  refine lv_aload_n hx hb dX3_sitByNumbers_3 rfl (lv_at hl 1 rfl) ?_
  refine va_get (D := (dC, dI)) (ci := 2) (v := .int 0) (C := RX3) (T := TX3) (N := 16) hx hb hts iX3 hown hK hP 0 rfl rfl 0 (by decide) (hts (.fieldLink RX3 9 "NeighboursMark$School" "count" "I") (by decide +kernel)) (fun _ h9 => h9) rfl dX3_sitByNumbers_4 ?_
  refine lv_icmp_ge (tgt := 23) hx hb dX3_sitByNumbers_7 (by decide) (fun _ => ?_) (fun c0 => absurd (by decide) c0)
  refine lv_aload_n hx hb dX3_sitByNumbers_23 rfl (lv_at hl 1 rfl) ?_
  have hPc := hP.sub (ws' := [(h0, .inr (2, [.int 0, .int ahv, .int alw, .int apv, .int awk, .int 1, .ref ak0, .ref ak1, .ref ak2, .ref ak3, .ref ak4, .ref ak5, .ref ak6, .ref ak7, .ref ak8, .ref ak9]))]) [0] rfl
  have hDc := hD.sub (ws' := [(h0, .inr (2, [.int 0, .int ahv, .int alw, .int apv, .int awk, .int 1, .ref ak0, .ref ak1, .ref ak2, .ref ak3, .ref ak4, .ref ak5, .ref ak6, .ref ak7, .ref ak8, .ref ak9]))]) [0] (by decide) rfl
  refine vx_callv (wc := [(h0, .inr (2, [.int 0, .int ahv, .int alw, .int apv, .int awk, .int 1, .ref ak0, .ref ak1, .ref ak2, .ref ak3, .ref ak4, .ref ak5, .ref ak6, .ref ak7, .ref ak8, .ref ak9]))]) (wr := []) hP hD hS hA [0] [] rfl rfl (by decide) (by decide) (va_runV (As := []) (rest := []) ⟨hx, hb, hml, hown, hts⟩ (c_findN l dC dI cI cC cZ _ h0 ak0 ak1 ak2 ak3 ak4 ak5 ak6 ak7 ak8 ak9 ahv alw apv awk) (cwV 0 hts gX3_sitByNumbers_X3_findNeighbours rfl rfl rfl (by decide +kernel) ⟨Nat.le_of_ble_eq_true rfl, Nat.le_of_ble_eq_true rfl⟩) ⟨vx_blind, va_recv hK hPc (ci := 2) (q0 := 0) rfl rfl, vx_pre hK hPc hDc⟩ rfl rfl hl.1 rfl (lv_room (Nat.le_of_ble_eq_true rfl)) dX3_sitByNumbers_24 ⟨Nat.le_of_ble_eq_true rfl, Nat.le_of_ble_eq_true rfl⟩) (fun u1 H locs hw3 hP hD hS => ?_)
  have hP : va_P (dC, dI) vwCl [(h0, .inr (2, [.int 0, .int ahv, .int alw, .int apv, .int awk, .int 1, .ref ak0, .ref ak1, .ref ak2, .ref ak3, .ref ak4, .ref ak5, .ref ak6, .ref ak7, .ref ak8, .ref ak9]))] H := hP
  have hD : va_D A [(h0, .inr (2, [.int 0, .int ahv, .int alw, .int apv, .int awk, .int 1, .ref ak0, .ref ak1, .ref ak2, .ref ak3, .ref ak4, .ref ak5, .ref ak6, .ref ak7, .ref ak8, .ref ak9]))] := hD
  exact vx_vret (u := ()) hx hb hr hlocks hK hP hD hS [0] rfl (by decide) trivial dX3_sitByNumbers_27
set_option maxHeartbeats 4000000 in
set_option maxRecDepth 100000 in
theorem c_learnsLike (l : Launch) (dC : Nat → ClassId) (dI : Nat → Nat → Nat) (cI cC cZ : ClassId) (sz : Nat) (h0 h1 ak0 ak1 ak2 ak3 ak4 ak5 ak6 ak7 ak8 ak9 : Nat) (ahv alw apv awk : Int32) : Met l yX3_learnsLike wsX3_learnsLike ({ frames := 0, cells := 0, slots := 0, locals := 0 }) (va_Pc [.ref h0, .ref h1] (vx_B (dC, dI) (vx_T cI cC cZ) sz [(h0, .inr (2, [.int 0, .int ahv, .int alw, .int apv, .int awk, .int 1, .ref ak0, .ref ak1, .ref ak2, .ref ak3, .ref ak4, .ref ak5, .ref ak6, .ref ak7, .ref ak8, .ref ak9]))])) (va_Qi (fun (r : Int32) (_ : Unit) => r = 1) (vx_C (dC, dI) (vx_T cI cC cZ) (va_A [(h0, .inr (2, [.int 0, .int ahv, .int alw, .int apv, .int awk, .int 1, .ref ak0, .ref ak1, .ref ak2, .ref ak3, .ref ak4, .ref ak5, .ref ak6, .ref ak7, .ref ak8, .ref ak9]))] sz) (fun (u : Unit) => [(h0, .inr (2, [.int 0, .int ahv, .int alw, .int apv, .int awk, .int 1, .ref ak0, .ref ak1, .ref ak2, .ref ak3, .ref ak4, .ref ak5, .ref ak6, .ref ak7, .ref ak8, .ref ak9]))])) (va_A [(h0, .inr (2, [.int 0, .int ahv, .int alw, .int apv, .int awk, .int 1, .ref ak0, .ref ak1, .ref ak2, .ref ak3, .ref ak4, .ref ak5, .ref ak6, .ref ak7, .ref ak8, .ref ak9]))] sz)) 0 0 (va_A [(h0, .inr (2, [.int 0, .int ahv, .int alw, .int apv, .int awk, .int 1, .ref ak0, .ref ak1, .ref ak2, .ref ak3, .ref ak4, .ref ak5, .ref ak6, .ref ak7, .ref ak8, .ref ak9]))] sz) := by
  refine Met.ofW (cc := cX3_learnsLike) (maxL := 3) (ret := (some .boolean)) (by decide) rfl ?_
  intro p e s m args below meth c s₁ B hml hv
  obtain ⟨rfl, hsz, hP, hK, hD0⟩ := hv
  have hx := B.exec
  have hb := B.bytes
  have hr := B.returns
  have hts := atoms_spec (ws := wsX3_learnsLike) B.pre
  have hown : s.vm.findClass RX3 = some m.cls := findClass_of_methodNamed B.named
  have hlocks := B.notSynchronized
  subst hsz
  have hD := hD0.self (sz := s.heap.size)
  generalize hAe : va_A [(h0, .inr (2, [.int 0, .int ahv, .int alw, .int apv, .int awk, .int 1, .ref ak0, .ref ak1, .ref ak2, .ref ak3, .ref ak4, .ref ak5, .ref ak6, .ref ak7, .ref ak8, .ref ak9]))] s.heap.size = A at hD ⊢
  have hA : ∀ q : Nat, s.heap.size ≤ q → A q := fun q h => by rw [← hAe]; exact Or.inr h
  have hS : va_S A s.heap s.heap [] := va_S.rf
  have hl := lv_entry ([.ref h0, .ref h1]) (n := 3) (Nat.le_of_ble_eq_true rfl)
  rw [lg_entry_eq]
  generalize (lg_sl ([.ref h0, .ref h1]) ++ List.replicate (3 - (lg_sl ([.ref h0, .ref h1])).length) Slot.unset).toArray = ls at hl ⊢
  have hl : lv_has ls 3 [(0, .ref h0), (1, .ref h1)] := hl
  have iX3 : ∀ w ∈ u_ws RX3 TX3 16, w ∈ wsX3_learnsLike := by decide +kernel
  refine lv_iconst (v := 0) hx hb dX3_learnsLike_0 (by decide) ?_
  refine lv_istore_n (lv' := [(2, .int 0), (0, .ref h0), (1, .ref h1)]) hx hb dX3_learnsLike_1 rfl hl (by decide) rfl (fun ls hl => ?_)
  refine lv_iload_n hx hb dX3_learnsLike_2 rfl (lv_at hl 0 rfl) ?_
  refine lv_aload_n hx hb dX3_learnsLike_3 rfl (lv_at hl 1 rfl) ?_
  refine va_get (D := (dC, dI)) (ci := 2) (v := .int 0) (C := RX3) (T := TX3) (N := 16) hx hb hts iX3 hown hK hP 0 rfl rfl 0 (by decide) (hts (.fieldLink RX3 9 "NeighboursMark$School" "count" "I") (by decide +kernel)) (fun _ h9 => h9) rfl dX3_learnsLike_4 ?_
  refine lv_icmp_ge (tgt := 33) hx hb dX3_learnsLike_7 (by decide) (fun _ => ?_) (fun c0 => absurd (by decide) c0)
  refine lv_iconst (v := 1) hx hb dX3_learnsLike_33 (by decide) ?_
  exact vx_zret (u := ()) hx hb hr rfl hlocks hK hP hD hS [0] rfl (by decide) rfl dX3_learnsLike_34
set_option maxHeartbeats 4000000 in
set_option maxRecDepth 100000 in
theorem c_markOf (l : Launch) (dC : Nat → ClassId) (dI : Nat → Nat → Nat) (cI cC cZ : ClassId) (sz : Nat) (h0 ak0 ak1 ak2 ak3 ak4 ak5 ak6 ak7 ak8 ak9 : Nat) (ahv alw apv awk pp : Int32) : Met l yX0_markOf wsX0_markOf ({ frames := 1, cells := 0, slots := 0, locals := 21 }) (va_Pc [.ref h0, .int pp] (vx_B (dC, dI) (vx_T cI cC cZ) sz [(h0, .inr (2, [.int 0, .int ahv, .int alw, .int apv, .int awk, .int 1, .ref ak0, .ref ak1, .ref ak2, .ref ak3, .ref ak4, .ref ak5, .ref ak6, .ref ak7, .ref ak8, .ref ak9]))])) (va_Qi (fun (r : Int32) (_ : Unit) => r = 0) (vx_C (dC, dI) (vx_T cI cC cZ) (va_A [(h0, .inr (2, [.int 0, .int ahv, .int alw, .int apv, .int awk, .int 1, .ref ak0, .ref ak1, .ref ak2, .ref ak3, .ref ak4, .ref ak5, .ref ak6, .ref ak7, .ref ak8, .ref ak9]))] sz) (fun (u : Unit) => [(h0, .inr (2, [.int 0, .int ahv, .int alw, .int apv, .int awk, .int 1, .ref ak0, .ref ak1, .ref ak2, .ref ak3, .ref ak4, .ref ak5, .ref ak6, .ref ak7, .ref ak8, .ref ak9]))])) (va_A [(h0, .inr (2, [.int 0, .int ahv, .int alw, .int apv, .int awk, .int 1, .ref ak0, .ref ak1, .ref ak2, .ref ak3, .ref ak4, .ref ak5, .ref ak6, .ref ak7, .ref ak8, .ref ak9]))] sz)) 0 0 (va_A [(h0, .inr (2, [.int 0, .int ahv, .int alw, .int apv, .int awk, .int 1, .ref ak0, .ref ak1, .ref ak2, .ref ak3, .ref ak4, .ref ak5, .ref ak6, .ref ak7, .ref ak8, .ref ak9]))] sz) := by
  refine Met.ofW (cc := cX0_markOf) (maxL := 2) (ret := (some .int)) (by decide) rfl ?_
  intro p e s m args below meth c s₁ B hml hv
  obtain ⟨rfl, hsz, hP, hK, hD0⟩ := hv
  have hx := B.exec
  have hb := B.bytes
  have hr := B.returns
  have hts := atoms_spec (ws := wsX0_markOf) B.pre
  have hown : s.vm.findClass RX0 = some m.cls := findClass_of_methodNamed B.named
  have hlocks := B.notSynchronized
  subst hsz
  have hD := hD0.self (sz := s.heap.size)
  generalize hAe : va_A [(h0, .inr (2, [.int 0, .int ahv, .int alw, .int apv, .int awk, .int 1, .ref ak0, .ref ak1, .ref ak2, .ref ak3, .ref ak4, .ref ak5, .ref ak6, .ref ak7, .ref ak8, .ref ak9]))] s.heap.size = A at hD ⊢
  have hA : ∀ q : Nat, s.heap.size ≤ q → A q := fun q h => by rw [← hAe]; exact Or.inr h
  have hS : va_S A s.heap s.heap [] := va_S.rf
  have hl := lv_entry ([.ref h0, .int pp]) (n := 2) (Nat.le_of_ble_eq_true rfl)
  rw [lg_entry_eq]
  generalize (lg_sl ([.ref h0, .int pp]) ++ List.replicate (2 - (lg_sl ([.ref h0, .int pp])).length) Slot.unset).toArray = ls at hl ⊢
  have hl : lv_has ls 2 [(0, .ref h0), (1, .int pp)] := hl
  refine lv_aload_n hx hb dX0_markOf_0 rfl (lv_at hl 0 rfl) ?_
  refine lv_iload_n hx hb dX0_markOf_1 rfl (lv_at hl 1 rfl) ?_
  have hPc := hP.sub (ws' := [(h0, .inr (2, [.int 0, .int ahv, .int alw, .int apv, .int awk, .int 1, .ref ak0, .ref ak1, .ref ak2, .ref ak3, .ref ak4, .ref ak5, .ref ak6, .ref ak7, .ref ak8, .ref ak9]))]) [0] rfl
  have hDc := hD.sub (ws' := [(h0, .inr (2, [.int 0, .int ahv, .int alw, .int apv, .int awk, .int 1, .ref ak0, .ref ak1, .ref ak2, .ref ak3, .ref ak4, .ref ak5, .ref ak6, .ref ak7, .ref ak8, .ref ak9]))]) [0] (by decide) rfl
  refine vx_calli (wc := [(h0, .inr (2, [.int 0, .int ahv, .int alw, .int apv, .int awk, .int 1, .ref ak0, .ref ak1, .ref ak2, .ref ak3, .ref ak4, .ref ak5, .ref ak6, .ref ak7, .ref ak8, .ref ak9]))]) (wr := []) hP hD hS hA [0] [] rfl rfl (by decide) (by decide) (va_runV (As := [.int pp]) (rest := []) ⟨hx, hb, hml, hown, hts⟩ (c_has l dC dI cI cC cZ _ h0 ak0 ak1 ak2 ak3 ak4 ak5 ak6 ak7 ak8 ak9 ahv alw apv awk pp) (cwV 1 hts gX0_markOf_X3_has rfl rfl rfl (by decide +kernel) ⟨Nat.le_of_ble_eq_true rfl, Nat.le_of_ble_eq_true rfl⟩) ⟨vx_blind, va_recv hK hPc (ci := 2) (q0 := 0) rfl rfl, vx_pre hK hPc hDc⟩ rfl rfl hl.1 rfl (lv_room (Nat.le_of_ble_eq_true rfl)) dX0_markOf_2 ⟨Nat.le_of_ble_eq_true rfl, Nat.le_of_ble_eq_true rfl⟩) (fun r2 u1 H locs hw3 hP hD hS => ?_)
  have hP : va_P (dC, dI) vwCl [(h0, .inr (2, [.int 0, .int ahv, .int alw, .int apv, .int awk, .int 1, .ref ak0, .ref ak1, .ref ak2, .ref ak3, .ref ak4, .ref ak5, .ref ak6, .ref ak7, .ref ak8, .ref ak9]))] H := hP
  have hD : va_D A [(h0, .inr (2, [.int 0, .int ahv, .int alw, .int apv, .int awk, .int 1, .ref ak0, .ref ak1, .ref ak2, .ref ak3, .ref ak4, .ref ak5, .ref ak6, .ref ak7, .ref ak8, .ref ak9]))] := hD
  have er2 : 0 = r2 := Eq.symm hw3
  subst er2
  refine lv_if_ne (tgt := 10) hx hb dX0_markOf_5 (by decide) (fun c0 => absurd (by decide) c0) (fun _ => ?_)
  refine lv_iconst (v := 0) hx hb dX0_markOf_8 (by decide) ?_
  exact vx_iret (u := ()) hx hb hr hlocks hK hP hD hS [0] rfl (by decide) rfl dX0_markOf_9
set_option maxHeartbeats 4000000 in
set_option maxRecDepth 100000 in
theorem c_sum (l : Launch) (dC : Nat → ClassId) (dI : Nat → Nat → Nat) (cI cC cZ : ClassId) (sz : Nat) (h0 ak0 ak1 ak2 ak3 ak4 ak5 ak6 ak7 ak8 ak9 : Nat) (ahv alw apv awk : Int32) : Met l yX0_sumOfMarks wsX0_sumOfMarks ({ frames := 2, cells := 0, slots := 0, locals := 42 }) (va_Pc [.ref h0] (vx_B (dC, dI) (vx_T cI cC cZ) sz [(h0, .inr (2, [.int 0, .int ahv, .int alw, .int apv, .int awk, .int 1, .ref ak0, .ref ak1, .ref ak2, .ref ak3, .ref ak4, .ref ak5, .ref ak6, .ref ak7, .ref ak8, .ref ak9]))])) (va_Qi (fun (r : Int32) (_ : Unit) => r = 0) (vx_C (dC, dI) (vx_T cI cC cZ) (va_A [(h0, .inr (2, [.int 0, .int ahv, .int alw, .int apv, .int awk, .int 1, .ref ak0, .ref ak1, .ref ak2, .ref ak3, .ref ak4, .ref ak5, .ref ak6, .ref ak7, .ref ak8, .ref ak9]))] sz) (fun (u : Unit) => [(h0, .inr (2, [.int 0, .int ahv, .int alw, .int apv, .int awk, .int 1, .ref ak0, .ref ak1, .ref ak2, .ref ak3, .ref ak4, .ref ak5, .ref ak6, .ref ak7, .ref ak8, .ref ak9]))])) (va_A [(h0, .inr (2, [.int 0, .int ahv, .int alw, .int apv, .int awk, .int 1, .ref ak0, .ref ak1, .ref ak2, .ref ak3, .ref ak4, .ref ak5, .ref ak6, .ref ak7, .ref ak8, .ref ak9]))] sz)) 0 0 (va_A [(h0, .inr (2, [.int 0, .int ahv, .int alw, .int apv, .int awk, .int 1, .ref ak0, .ref ak1, .ref ak2, .ref ak3, .ref ak4, .ref ak5, .ref ak6, .ref ak7, .ref ak8, .ref ak9]))] sz) := by
  refine Met.ofW (cc := cX0_sumOfMarks) (maxL := 3) (ret := (some .int)) (by decide) rfl ?_
  intro p e s m args below meth c s₁ B hml hv
  obtain ⟨rfl, hsz, hP, hK, hD0⟩ := hv
  have hx := B.exec
  have hb := B.bytes
  have hr := B.returns
  have hts := atoms_spec (ws := wsX0_sumOfMarks) B.pre
  have hown : s.vm.findClass RX0 = some m.cls := findClass_of_methodNamed B.named
  have hlocks := B.notSynchronized
  subst hsz
  have hD := hD0.self (sz := s.heap.size)
  generalize hAe : va_A [(h0, .inr (2, [.int 0, .int ahv, .int alw, .int apv, .int awk, .int 1, .ref ak0, .ref ak1, .ref ak2, .ref ak3, .ref ak4, .ref ak5, .ref ak6, .ref ak7, .ref ak8, .ref ak9]))] s.heap.size = A at hD ⊢
  have hA : ∀ q : Nat, s.heap.size ≤ q → A q := fun q h => by rw [← hAe]; exact Or.inr h
  have hS : va_S A s.heap s.heap [] := va_S.rf
  have hl := lv_entry ([.ref h0]) (n := 3) (Nat.le_of_ble_eq_true rfl)
  rw [lg_entry_eq]
  generalize (lg_sl ([.ref h0]) ++ List.replicate (3 - (lg_sl ([.ref h0])).length) Slot.unset).toArray = ls at hl ⊢
  have hl : lv_has ls 3 [(0, .ref h0)] := hl
  have iX3 : ∀ w ∈ u_ws RX3 TX3 16, w ∈ wsX0_sumOfMarks := by decide +kernel
  refine lv_aload_n hx hb dX0_sumOfMarks_0 rfl (lv_at hl 0 rfl) ?_
  refine va_get (D := (dC, dI)) (ci := 2) (v := .int alw) (C := RX3) (T := TX3) (N := 16) hx hb hts iX3 hown hK hP 0 rfl rfl 2 (by decide) (hts (.fieldLink RX0 38 "NeighboursMark$School" "law" "I") (by decide +kernel)) (fun _ h9 => h9) rfl dX0_sumOfMarks_1 ?_
  refine lv_iconst (v := 5) hx hb dX0_sumOfMarks_4 (by decide) ?_
  refine lv_icmp_eq (tgt := 17) hx hb dX0_sumOfMarks_5 (by decide) (fun c1 => ?_) (fun c1 => ?_)
  · skip
    refine lv_aload_n hx hb dX0_sumOfMarks_17 rfl (lv_at hl 0 rfl) ?_
    refine va_get (D := (dC, dI)) (ci := 2) (v := .int 0) (C := RX3) (T := TX3) (N := 16) hx hb hts iX3 hown hK hP 0 rfl rfl 0 (by decide) (hts (.fieldLink RX0 9 "NeighboursMark$School" "count" "I") (by decide +kernel)) (fun _ h9 => h9) rfl dX0_sumOfMarks_18 ?_
    refine lv_aload_n hx hb dX0_sumOfMarks_21 rfl (lv_at hl 0 rfl) ?_
    refine lv_iconst (v := 0) hx hb dX0_sumOfMarks_22 (by decide) ?_
    have hPc := hP.sub (ws' := [(h0, .inr (2, [.int 0, .int ahv, .int alw, .int apv, .int awk, .int 1, .ref ak0, .ref ak1, .ref ak2, .ref ak3, .ref ak4, .ref ak5, .ref ak6, .ref ak7, .ref ak8, .ref ak9]))]) [0] rfl
    have hDc := hD.sub (ws' := [(h0, .inr (2, [.int 0, .int ahv, .int alw, .int apv, .int awk, .int 1, .ref ak0, .ref ak1, .ref ak2, .ref ak3, .ref ak4, .ref ak5, .ref ak6, .ref ak7, .ref ak8, .ref ak9]))]) [0] (by decide) rfl
    refine vx_calli (wc := [(h0, .inr (2, [.int 0, .int ahv, .int alw, .int apv, .int awk, .int 1, .ref ak0, .ref ak1, .ref ak2, .ref ak3, .ref ak4, .ref ak5, .ref ak6, .ref ak7, .ref ak8, .ref ak9]))]) (wr := []) hP hD hS hA [0] [] rfl rfl (by decide) (by decide) (va_runS (As := [.ref h0, .int 0]) (rest := [.int 0]) ⟨hx, hb, hml, hown, hts⟩ (c_markOf l dC dI cI cC cZ _ h0 ak0 ak1 ak2 ak3 ak4 ak5 ak6 ak7 ak8 ak9 ahv alw apv awk 0) (va_cwS 2 hts gX0_sumOfMarks_X0_markOf rfl rfl rfl (by decide +kernel) ⟨Nat.le_of_ble_eq_true rfl, Nat.le_of_ble_eq_true rfl⟩) ⟨vx_blind, vx_pre hK hPc hDc⟩ rfl rfl hl.1 rfl (lv_room (Nat.le_of_ble_eq_true rfl)) dX0_sumOfMarks_23 ⟨Nat.le_of_ble_eq_true rfl, Nat.le_of_ble_eq_true rfl⟩) (fun r3 u2 H locs hw4 hP hD hS => ?_)
    have hP : va_P (dC, dI) vwCl [(h0, .inr (2, [.int 0, .int ahv, .int alw, .int apv, .int awk, .int 1, .ref ak0, .ref ak1, .ref ak2, .ref ak3, .ref ak4, .ref ak5, .ref ak6, .ref ak7, .ref ak8, .ref ak9]))] H := hP
    have hD : va_D A [(h0, .inr (2, [.int 0, .int ahv, .int alw, .int apv, .int awk, .int 1, .ref ak0, .ref ak1, .ref ak2, .ref ak3, .ref ak4, .ref ak5, .ref ak6, .ref ak7, .ref ak8, .ref ak9]))] := hD
    have er3 : 0 = r3 := Eq.symm hw4
    subst er3
    refine lv_imul hx hb dX0_sumOfMarks_26 ?_
    refine lv_topi (fun x5 ex5 => ?_)
    have ex5 : 0 = x5 := (ex5.trans (by decide)).symm
    subst ex5
    exact vx_iret (u := ()) hx hb hr hlocks hK hP hD hS [0] rfl (by decide) rfl dX0_sumOfMarks_27
  · skip
    refine lv_aload_n hx hb dX0_sumOfMarks_8 rfl (lv_at hl 0 rfl) ?_
    refine va_get (D := (dC, dI)) (ci := 2) (v := .int alw) (C := RX3) (T := TX3) (N := 16) hx hb hts iX3 hown hK hP 0 rfl rfl 2 (by decide) (hts (.fieldLink RX0 38 "NeighboursMark$School" "law" "I") (by decide +kernel)) (fun _ h9 => h9) rfl dX0_sumOfMarks_9 ?_
    refine lv_bipush (v := 6) hx hb dX0_sumOfMarks_12 (by decide) ?_
    refine lv_icmp_ne (tgt := 28) hx hb dX0_sumOfMarks_14 (by decide) (fun c6 => ?_) (fun c6 => ?_)
    · skip
      refine lv_iconst (v := 0) hx hb dX0_sumOfMarks_28 (by decide) ?_
      refine lv_istore_n (lv' := [(1, .int 0), (0, .ref h0)]) hx hb dX0_sumOfMarks_29 rfl hl (by decide) rfl (fun ls hl => ?_)
      refine lv_iconst (v := 0) hx hb dX0_sumOfMarks_30 (by decide) ?_
      refine lv_istore_n (lv' := [(2, .int 0), (1, .int 0), (0, .ref h0)]) hx hb dX0_sumOfMarks_31 rfl hl (by decide) rfl (fun ls hl => ?_)
      refine lv_iload_n hx hb dX0_sumOfMarks_32 rfl (lv_at hl 0 rfl) ?_
      refine lv_aload_n hx hb dX0_sumOfMarks_33 rfl (lv_at hl 2 rfl) ?_
      refine va_get (D := (dC, dI)) (ci := 2) (v := .int 0) (C := RX3) (T := TX3) (N := 16) hx hb hts iX3 hown hK hP 0 rfl rfl 0 (by decide) (hts (.fieldLink RX0 9 "NeighboursMark$School" "count" "I") (by decide +kernel)) (fun _ h9 => h9) rfl dX0_sumOfMarks_34 ?_
      refine lv_icmp_ge (tgt := 54) hx hb dX0_sumOfMarks_37 (by decide) (fun _ => ?_) (fun c0 => absurd (by decide) c0)
      refine lv_iload_n hx hb dX0_sumOfMarks_54 rfl (lv_at hl 1 rfl) ?_
      exact vx_iret (u := ()) hx hb hr hlocks hK hP hD hS [0] rfl (by decide) rfl dX0_sumOfMarks_55
    · skip
      refine lv_aload_n hx hb dX0_sumOfMarks_17 rfl (lv_at hl 0 rfl) ?_
      refine va_get (D := (dC, dI)) (ci := 2) (v := .int 0) (C := RX3) (T := TX3) (N := 16) hx hb hts iX3 hown hK hP 0 rfl rfl 0 (by decide) (hts (.fieldLink RX0 9 "NeighboursMark$School" "count" "I") (by decide +kernel)) (fun _ h9 => h9) rfl dX0_sumOfMarks_18 ?_
      refine lv_aload_n hx hb dX0_sumOfMarks_21 rfl (lv_at hl 0 rfl) ?_
      refine lv_iconst (v := 0) hx hb dX0_sumOfMarks_22 (by decide) ?_
      have hPc := hP.sub (ws' := [(h0, .inr (2, [.int 0, .int ahv, .int alw, .int apv, .int awk, .int 1, .ref ak0, .ref ak1, .ref ak2, .ref ak3, .ref ak4, .ref ak5, .ref ak6, .ref ak7, .ref ak8, .ref ak9]))]) [0] rfl
      have hDc := hD.sub (ws' := [(h0, .inr (2, [.int 0, .int ahv, .int alw, .int apv, .int awk, .int 1, .ref ak0, .ref ak1, .ref ak2, .ref ak3, .ref ak4, .ref ak5, .ref ak6, .ref ak7, .ref ak8, .ref ak9]))]) [0] (by decide) rfl
      refine vx_calli (wc := [(h0, .inr (2, [.int 0, .int ahv, .int alw, .int apv, .int awk, .int 1, .ref ak0, .ref ak1, .ref ak2, .ref ak3, .ref ak4, .ref ak5, .ref ak6, .ref ak7, .ref ak8, .ref ak9]))]) (wr := []) hP hD hS hA [0] [] rfl rfl (by decide) (by decide) (va_runS (As := [.ref h0, .int 0]) (rest := [.int 0]) ⟨hx, hb, hml, hown, hts⟩ (c_markOf l dC dI cI cC cZ _ h0 ak0 ak1 ak2 ak3 ak4 ak5 ak6 ak7 ak8 ak9 ahv alw apv awk 0) (va_cwS 2 hts gX0_sumOfMarks_X0_markOf rfl rfl rfl (by decide +kernel) ⟨Nat.le_of_ble_eq_true rfl, Nat.le_of_ble_eq_true rfl⟩) ⟨vx_blind, vx_pre hK hPc hDc⟩ rfl rfl hl.1 rfl (lv_room (Nat.le_of_ble_eq_true rfl)) dX0_sumOfMarks_23 ⟨Nat.le_of_ble_eq_true rfl, Nat.le_of_ble_eq_true rfl⟩) (fun r8 u7 H locs hw9 hP hD hS => ?_)
      have hP : va_P (dC, dI) vwCl [(h0, .inr (2, [.int 0, .int ahv, .int alw, .int apv, .int awk, .int 1, .ref ak0, .ref ak1, .ref ak2, .ref ak3, .ref ak4, .ref ak5, .ref ak6, .ref ak7, .ref ak8, .ref ak9]))] H := hP
      have hD : va_D A [(h0, .inr (2, [.int 0, .int ahv, .int alw, .int apv, .int awk, .int 1, .ref ak0, .ref ak1, .ref ak2, .ref ak3, .ref ak4, .ref ak5, .ref ak6, .ref ak7, .ref ak8, .ref ak9]))] := hD
      have er8 : 0 = r8 := Eq.symm hw9
      subst er8
      refine lv_imul hx hb dX0_sumOfMarks_26 ?_
      refine lv_topi (fun x10 ex10 => ?_)
      have ex10 : 0 = x10 := (ex10.trans (by decide)).symm
      subst ex10
      exact vx_iret (u := ()) hx hb hr hlocks hK hP hD hS [0] rfl (by decide) rfl dX0_sumOfMarks_27
set_option maxHeartbeats 4000000 in
set_option maxRecDepth 100000 in
theorem c_passed (l : Launch) (dC : Nat → ClassId) (dI : Nat → Nat → Nat) (cI cC cZ : ClassId) (sz : Nat) (h0 ak0 ak1 ak2 ak3 ak4 ak5 ak6 ak7 ak8 ak9 : Nat) (ahv alw apv awk : Int32) : Met l yX0_passedBits wsX0_passedBits ({ frames := 0, cells := 0, slots := 0, locals := 0 }) (va_Pc [.ref h0] (vx_B (dC, dI) (vx_T cI cC cZ) sz [(h0, .inr (2, [.int 0, .int ahv, .int alw, .int apv, .int awk, .int 1, .ref ak0, .ref ak1, .ref ak2, .ref ak3, .ref ak4, .ref ak5, .ref ak6, .ref ak7, .ref ak8, .ref ak9]))])) (va_Qi (fun (r : Int32) (_ : Unit) => r = 0) (vx_C (dC, dI) (vx_T cI cC cZ) (va_A [(h0, .inr (2, [.int 0, .int ahv, .int alw, .int apv, .int awk, .int 1, .ref ak0, .ref ak1, .ref ak2, .ref ak3, .ref ak4, .ref ak5, .ref ak6, .ref ak7, .ref ak8, .ref ak9]))] sz) (fun (u : Unit) => [(h0, .inr (2, [.int 0, .int ahv, .int alw, .int apv, .int awk, .int 1, .ref ak0, .ref ak1, .ref ak2, .ref ak3, .ref ak4, .ref ak5, .ref ak6, .ref ak7, .ref ak8, .ref ak9]))])) (va_A [(h0, .inr (2, [.int 0, .int ahv, .int alw, .int apv, .int awk, .int 1, .ref ak0, .ref ak1, .ref ak2, .ref ak3, .ref ak4, .ref ak5, .ref ak6, .ref ak7, .ref ak8, .ref ak9]))] sz)) 0 0 (va_A [(h0, .inr (2, [.int 0, .int ahv, .int alw, .int apv, .int awk, .int 1, .ref ak0, .ref ak1, .ref ak2, .ref ak3, .ref ak4, .ref ak5, .ref ak6, .ref ak7, .ref ak8, .ref ak9]))] sz) := by
  refine Met.ofW (cc := cX0_passedBits) (maxL := 3) (ret := (some .int)) (by decide) rfl ?_
  intro p e s m args below meth c s₁ B hml hv
  obtain ⟨rfl, hsz, hP, hK, hD0⟩ := hv
  have hx := B.exec
  have hb := B.bytes
  have hr := B.returns
  have hts := atoms_spec (ws := wsX0_passedBits) B.pre
  have hown : s.vm.findClass RX0 = some m.cls := findClass_of_methodNamed B.named
  have hlocks := B.notSynchronized
  subst hsz
  have hD := hD0.self (sz := s.heap.size)
  generalize hAe : va_A [(h0, .inr (2, [.int 0, .int ahv, .int alw, .int apv, .int awk, .int 1, .ref ak0, .ref ak1, .ref ak2, .ref ak3, .ref ak4, .ref ak5, .ref ak6, .ref ak7, .ref ak8, .ref ak9]))] s.heap.size = A at hD ⊢
  have hA : ∀ q : Nat, s.heap.size ≤ q → A q := fun q h => by rw [← hAe]; exact Or.inr h
  have hS : va_S A s.heap s.heap [] := va_S.rf
  have hl := lv_entry ([.ref h0]) (n := 3) (Nat.le_of_ble_eq_true rfl)
  rw [lg_entry_eq]
  generalize (lg_sl ([.ref h0]) ++ List.replicate (3 - (lg_sl ([.ref h0])).length) Slot.unset).toArray = ls at hl ⊢
  have hl : lv_has ls 3 [(0, .ref h0)] := hl
  have iX3 : ∀ w ∈ u_ws RX3 TX3 16, w ∈ wsX0_passedBits := by decide +kernel
  refine lv_iconst (v := 0) hx hb dX0_passedBits_0 (by decide) ?_
  refine lv_istore_n (lv' := [(1, .int 0), (0, .ref h0)]) hx hb dX0_passedBits_1 rfl hl (by decide) rfl (fun ls hl => ?_)
  refine lv_iconst (v := 0) hx hb dX0_passedBits_2 (by decide) ?_
  refine lv_istore_n (lv' := [(2, .int 0), (1, .int 0), (0, .ref h0)]) hx hb dX0_passedBits_3 rfl hl (by decide) rfl (fun ls hl => ?_)
  refine lv_iload_n hx hb dX0_passedBits_4 rfl (lv_at hl 0 rfl) ?_
  refine lv_aload_n hx hb dX0_passedBits_5 rfl (lv_at hl 2 rfl) ?_
  refine va_get (D := (dC, dI)) (ci := 2) (v := .int 0) (C := RX3) (T := TX3) (N := 16) hx hb hts iX3 hown hK hP 0 rfl rfl 0 (by decide) (hts (.fieldLink RX0 9 "NeighboursMark$School" "count" "I") (by decide +kernel)) (fun _ h9 => h9) rfl dX0_passedBits_6 ?_
  refine lv_icmp_ge (tgt := 36) hx hb dX0_passedBits_9 (by decide) (fun _ => ?_) (fun c0 => absurd (by decide) c0)
  refine lv_iload_n hx hb dX0_passedBits_36 rfl (lv_at hl 1 rfl) ?_
  exact vx_iret (u := ()) hx hb hr hlocks hK hP hD hS [0] rfl (by decide) rfl dX0_passedBits_37
set_option maxHeartbeats 4000000 in
set_option maxRecDepth 100000 in
theorem c_goBy (l : Launch) (dC : Nat → ClassId) (dI : Nat → Nat → Nat) (cI cC cZ : ClassId) (sz : Nat) (h0 ak0 ak1 ak2 ak3 ak4 ak5 ak6 ak7 ak8 ak9 : Nat) (ahv alw apv awk : Int32) : Met l yX6_goBy wsX6_goBy ({ frames := 0, cells := 0, slots := 0, locals := 0 }) (va_Pc [.ref h0] (vx_B (dC, dI) (vx_T cI cC cZ) sz [(h0, .inr (2, [.int 0, .int ahv, .int alw, .int apv, .int awk, .int 1, .ref ak0, .ref ak1, .ref ak2, .ref ak3, .ref ak4, .ref ak5, .ref ak6, .ref ak7, .ref ak8, .ref ak9]))])) (va_Qv (fun (_ : Unit) => True) (vx_C (dC, dI) (vx_T cI cC cZ) (va_A [(h0, .inr (2, [.int 0, .int ahv, .int alw, .int apv, .int awk, .int 1, .ref ak0, .ref ak1, .ref ak2, .ref ak3, .ref ak4, .ref ak5, .ref ak6, .ref ak7, .ref ak8, .ref ak9]))] sz) (fun (u : Unit) => [(h0, .inr (2, [.int 0, .int ahv, .int alw, .int apv, .int (awk + 1), .int 1, .ref ak0, .ref ak1, .ref ak2, .ref ak3, .ref ak4, .ref ak5, .ref ak6, .ref ak7, .ref ak8, .ref ak9]))])) (va_A [(h0, .inr (2, [.int 0, .int ahv, .int alw, .int apv, .int awk, .int 1, .ref ak0, .ref ak1, .ref ak2, .ref ak3, .ref ak4, .ref ak5, .ref ak6, .ref ak7, .ref ak8, .ref ak9]))] sz)) 0 0 (va_A [(h0, .inr (2, [.int 0, .int ahv, .int alw, .int apv, .int awk, .int 1, .ref ak0, .ref ak1, .ref ak2, .ref ak3, .ref ak4, .ref ak5, .ref ak6, .ref ak7, .ref ak8, .ref ak9]))] sz) := by
  refine Met.ofW (cc := cX6_goBy) (maxL := 2) (ret := none) (by decide) rfl ?_
  intro p e s m args below meth c s₁ B hml hv
  obtain ⟨rfl, hsz, hP, hK, hD0⟩ := hv
  have hx := B.exec
  have hb := B.bytes
  have hr := B.returns
  have hts := atoms_spec (ws := wsX6_goBy) B.pre
  have hown : s.vm.findClass RX6 = some m.cls := findClass_of_methodNamed B.named
  have hlocks := B.notSynchronized
  subst hsz
  have hD := hD0.self (sz := s.heap.size)
  generalize hAe : va_A [(h0, .inr (2, [.int 0, .int ahv, .int alw, .int apv, .int awk, .int 1, .ref ak0, .ref ak1, .ref ak2, .ref ak3, .ref ak4, .ref ak5, .ref ak6, .ref ak7, .ref ak8, .ref ak9]))] s.heap.size = A at hD ⊢
  have hA : ∀ q : Nat, s.heap.size ≤ q → A q := fun q h => by rw [← hAe]; exact Or.inr h
  have hS : va_S A s.heap s.heap [] := va_S.rf
  have hl := lv_entry ([.ref h0]) (n := 2) (Nat.le_of_ble_eq_true rfl)
  rw [lg_entry_eq]
  generalize (lg_sl ([.ref h0]) ++ List.replicate (2 - (lg_sl ([.ref h0])).length) Slot.unset).toArray = ls at hl ⊢
  have hl : lv_has ls 2 [(0, .ref h0)] := hl
  have iX3 : ∀ w ∈ u_ws RX3 TX3 16, w ∈ wsX6_goBy := by decide +kernel
  refine lv_iconst (v := 0) hx hb dX6_goBy_0 (by decide) ?_
  refine lv_istore_n (lv' := [(1, .int 0), (0, .ref h0)]) hx hb dX6_goBy_1 rfl hl (by decide) rfl (fun ls hl => ?_)
  refine lv_iload_n hx hb dX6_goBy_2 rfl (lv_at hl 0 rfl) ?_
  refine lv_aload_n hx hb dX6_goBy_3 rfl (lv_at hl 1 rfl) ?_
  refine va_get (D := (dC, dI)) (ci := 2) (v := .int 0) (C := RX3) (T := TX3) (N := 16) hx hb hts iX3 hown hK hP 0 rfl rfl 0 (by decide) (hts (.fieldLink RX6 9 "NeighboursMark$School" "count" "I") (by decide +kernel)) (fun _ h9 => h9) rfl dX6_goBy_4 ?_
  refine lv_icmp_ge (tgt := 32) hx hb dX6_goBy_7 (by decide) (fun _ => ?_) (fun c0 => absurd (by decide) c0)
  refine lv_iconst (v := 0) hx hb dX6_goBy_32 (by decide) ?_
  refine lv_istore_n (lv' := [(1, .int 0), (0, .ref h0)]) hx hb dX6_goBy_33 rfl hl (by decide) rfl (fun ls hl => ?_)
  refine lv_iload_n hx hb dX6_goBy_34 rfl (lv_at hl 0 rfl) ?_
  refine lv_aload_n hx hb dX6_goBy_35 rfl (lv_at hl 1 rfl) ?_
  refine va_get (D := (dC, dI)) (ci := 2) (v := .int 0) (C := RX3) (T := TX3) (N := 16) hx hb hts iX3 hown hK hP 0 rfl rfl 0 (by decide) (hts (.fieldLink RX6 9 "NeighboursMark$School" "count" "I") (by decide +kernel)) (fun _ h9 => h9) rfl dX6_goBy_36 ?_
  refine lv_icmp_ge (tgt := 59) hx hb dX6_goBy_39 (by decide) (fun _ => ?_) (fun c0 => absurd (by decide) c0)
  refine lv_aload_n hx hb dX6_goBy_59 rfl (lv_at hl 1 rfl) ?_
  refine lv_dup hx hb dX6_goBy_60 rfl ?_
  refine va_get (D := (dC, dI)) (ci := 2) (v := .int awk) (C := RX3) (T := TX3) (N := 16) hx hb hts iX3 hown hK hP 0 rfl rfl 4 (by decide) (hts (.fieldLink RX6 32 "NeighboursMark$School" "week" "I") (by decide +kernel)) (fun _ h9 => h9) rfl dX6_goBy_61 ?_
  refine lv_iconst (v := 1) hx hb dX6_goBy_64 (by decide) ?_
  refine lv_iadd hx hb dX6_goBy_65 ?_
  refine va_put (D := (dC, dI)) (ci := 2) (v := .int (awk + 1)) (ty := .int) (C := RX3) (T := TX3) (N := 16) hx hb hts iX3 tyX3 tyX3_ok nmX3 hown hK hP hD hS 0 rfl rfl 4 (by decide) (hts (.fieldLink RX6 32 "NeighboursMark$School" "week" "I") (by decide +kernel)) (fun _ h9 => h9) rfl (by decide +kernel) rfl rfl (Nat.le_of_ble_eq_true rfl) dX6_goBy_66 (fun H locs hP hD hS => ?_)
  have hP : va_P (dC, dI) vwCl [(h0, .inr (2, [.int 0, .int ahv, .int alw, .int apv, .int (awk + 1), .int 1, .ref ak0, .ref ak1, .ref ak2, .ref ak3, .ref ak4, .ref ak5, .ref ak6, .ref ak7, .ref ak8, .ref ak9]))] H := hP
  have hD : va_D A [(h0, .inr (2, [.int 0, .int ahv, .int alw, .int apv, .int (awk + 1), .int 1, .ref ak0, .ref ak1, .ref ak2, .ref ak3, .ref ak4, .ref ak5, .ref ak6, .ref ak7, .ref ak8, .ref ak9]))] := hD
  exact vx_vret (u := ()) hx hb hr hlocks hK hP hD hS [0] rfl (by decide) trivial dX6_goBy_69
