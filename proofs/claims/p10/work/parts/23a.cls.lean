set_option maxHeartbeats 8000000 in
set_option maxRecDepth 100000 in
theorem a_isFull64 (l : Launch) (dC : Nat → ClassId) (dI : Nat → Nat → Nat) (cI cC cZ : ClassId) (sz : Nat) (h0 ait : Nat) (asz : Int32) (anf : Nat → Int32) (b_asz : 0 ≤ asz.toInt ∧ asz.toInt ≤ 64) : Met l yX1_isFull wsX1_isFull ({ frames := 0, cells := 0, slots := 0, locals := 0 }) (va_Pc [.ref h0] (vx_B (dC, dI) (vx_T cI cC cZ) sz [(h0, .inr (0, [.ref ait, .int asz])), (ait, .inl (cI, 64, .inl anf))])) (va_Qi (fun (r : Int32) (u : (Nat → Int32) × (Nat → Nat → Int32)) => ((r = 1) ∨ (r = 0 ∧ asz.toInt < 64)) ∧ True) (vx_C (dC, dI) (vx_T cI cC cZ) (va_A [(h0, .inr (0, [.ref ait, .int asz])), (ait, .inl (cI, 64, .inl anf))] sz) (fun (u : (Nat → Int32) × (Nat → Nat → Int32)) => [(h0, .inr (0, [.ref ait, .int asz])), (ait, .inl (cI, 64, .inl anf))])) (va_A [(h0, .inr (0, [.ref ait, .int asz])), (ait, .inl (cI, 64, .inl anf))] sz)) 0 0 (va_A [(h0, .inr (0, [.ref ait, .int asz])), (ait, .inl (cI, 64, .inl anf))] sz) := by
  refine Met.ofW (cc := cX1_isFull) (maxL := 1) (ret := (some .boolean)) (by decide) rfl ?_
  intro p e s m args below meth c s₁ B hml hv
  obtain ⟨rfl, hsz, hP, hK, hD0, hN⟩ := hv
  have hx := B.exec
  have hb := B.bytes
  have hr := B.returns
  have hts := atoms_spec (ws := wsX1_isFull) B.pre
  have hown : s.vm.findClass RX1 = some m.cls := findClass_of_methodNamed B.named
  have hlocks := B.notSynchronized
  subst hsz
  have hD := hD0.self (sz := s.heap.size)
  generalize hAe : va_A [(h0, .inr (0, [.ref ait, .int asz])), (ait, .inl (cI, 64, .inl anf))] s.heap.size = A at hD hN ⊢
  have hA : ∀ q : Nat, s.heap.size ≤ q → A q := fun q h => by rw [← hAe]; exact Or.inr h
  have hS : va_S A s.heap s.heap [] := va_S.rf
  have hl := lv_entry ([.ref h0]) (n := 1) (Nat.le_of_ble_eq_true rfl)
  rw [lg_entry_eq]
  generalize (lg_sl ([.ref h0]) ++ List.replicate (1 - (lg_sl ([.ref h0])).length) Slot.unset).toArray = ls at hl ⊢
  have hl : lv_has ls 1 [(0, .ref h0)] := hl
  have iX1 : ∀ w ∈ u_ws RX1 TX1 2, w ∈ wsX1_isFull := fun w h => (List.mem_cons_of_mem _ (List.mem_append_right _ h))
  refine lv_aload_n hx hb dX1_isFull_0 rfl (lv_at hl 0 rfl) ?_
  refine va_get (D := (dC, dI)) (ci := 0) (v := .int asz) (C := RX1) (T := TX1) (N := 2) hx hb hts iX1 hown hK hP 0 rfl rfl 1 (by decide) (hts (.fieldLink RX1 19 "NeighboursMark$Numbers" "size" "I") (vm_at 1 rfl)) (fun _ h9 => h9) rfl dX1_isFull_1 ?_
  refine lv_aload_n hx hb dX1_isFull_4 rfl (lv_at hl 0 rfl) ?_
  refine va_get (D := (dC, dI)) (ci := 0) (v := .ref ait) (C := RX1) (T := TX1) (N := 2) hx hb hts iX1 hown hK hP 0 rfl rfl 0 (by decide) (hts (.fieldLink RX1 13 "NeighboursMark$Numbers" "items" "[I") (vm_at 2 rfl)) (fun _ h9 => h9) rfl dX1_isFull_5 ?_
  refine va_alen hx hb hK hP 1 0 rfl rfl (v := 64) rfl dX1_isFull_8 ?_
  refine lv_icmp_lt (tgt := 16) hx hb dX1_isFull_9 (by decide) (fun c1 => ?_) (fun c1 => ?_)
  · have c1 : asz.toInt < 64 := vy_lt c1
    refine lv_iconst (v := 0) hx hb dX1_isFull_16 (by decide) ?_
    exact vx_zret (u := ((fun k => ([] : List Int32).getD k 0), (fun k => ([] : List (Nat → Int32)).getD k (fun _ => 0)))) hx hb hr rfl hlocks hK hP hD hS [0, 1] rfl (by decide) ⟨(Or.inr (⟨rfl, by omega⟩)), trivial⟩ dX1_isFull_17
  · have c1 : asz.toInt ≥ 64 := vy_nlt c1
    refine lv_iconst (v := 1) hx hb dX1_isFull_12 (by decide) ?_
    refine lv_goto (tgt := 17) hx hb dX1_isFull_13 (by decide) ?_
    exact vx_zret (u := ((fun k => ([] : List Int32).getD k 0), (fun k => ([] : List (Nat → Int32)).getD k (fun _ => 0)))) hx hb hr rfl hlocks hK hP hD hS [0, 1] rfl (by decide) ⟨(Or.inl rfl), trivial⟩ dX1_isFull_17
set_option maxHeartbeats 8000000 in
set_option maxRecDepth 100000 in
theorem a_add64 (l : Launch) (dC : Nat → ClassId) (dI : Nat → Nat → Nat) (cI cC cZ : ClassId) (sz : Nat) (h0 ait : Nat) (v asz : Int32) (anf : Nat → Int32) (b_asz : 0 ≤ asz.toInt ∧ asz.toInt ≤ 64) : Met l yX1_add wsX1_add ({ frames := 1, cells := 0, slots := 0, locals := 20 }) (va_Pc [.ref h0, .int v] (vx_B (dC, dI) (vx_T cI cC cZ) sz [(h0, .inr (0, [.ref ait, .int asz])), (ait, .inl (cI, 64, .inl anf))])) (va_Qv (fun (u : (Nat → Int32) × (Nat → Nat → Int32)) => (0 ≤ (u.1 0).toInt ∧ (u.1 0).toInt ≤ 64) ∧ True) (vx_C (dC, dI) (vx_T cI cC cZ) (va_A [(h0, .inr (0, [.ref ait, .int asz])), (ait, .inl (cI, 64, .inl anf))] sz) (fun (u : (Nat → Int32) × (Nat → Nat → Int32)) => [(h0, .inr (0, [.ref ait, .int (u.1 0)])), (ait, .inl (cI, 64, .inl (u.2 0)))])) (va_A [(h0, .inr (0, [.ref ait, .int asz])), (ait, .inl (cI, 64, .inl anf))] sz)) 0 0 (va_A [(h0, .inr (0, [.ref ait, .int asz])), (ait, .inl (cI, 64, .inl anf))] sz) := by
  refine Met.ofW (cc := cX1_add) (maxL := 2) (ret := none) (by decide) rfl ?_
  intro p e s m args below meth c s₁ B hml hv
  obtain ⟨rfl, hsz, hP, hK, hD0, hN⟩ := hv
  have hx := B.exec
  have hb := B.bytes
  have hr := B.returns
  have hts := atoms_spec (ws := wsX1_add) B.pre
  have hown : s.vm.findClass RX1 = some m.cls := findClass_of_methodNamed B.named
  have hlocks := B.notSynchronized
  subst hsz
  have hD := hD0.self (sz := s.heap.size)
  generalize hAe : va_A [(h0, .inr (0, [.ref ait, .int asz])), (ait, .inl (cI, 64, .inl anf))] s.heap.size = A at hD hN ⊢
  have hA : ∀ q : Nat, s.heap.size ≤ q → A q := fun q h => by rw [← hAe]; exact Or.inr h
  have hS : va_S A s.heap s.heap [] := va_S.rf
  have hl := lv_entry ([.ref h0, .int v]) (n := 2) (Nat.le_of_ble_eq_true rfl)
  rw [lg_entry_eq]
  generalize (lg_sl ([.ref h0, .int v]) ++ List.replicate (2 - (lg_sl ([.ref h0, .int v])).length) Slot.unset).toArray = ls at hl ⊢
  have hl : lv_has ls 2 [(0, .ref h0), (1, .int v)] := hl
  have iX1 : ∀ w ∈ u_ws RX1 TX1 2, w ∈ wsX1_add := fun w h => (List.mem_cons_of_mem _ (List.mem_append_right _ h))
  refine lv_aload_n hx hb dX1_add_0 rfl (lv_at hl 0 rfl) ?_
  have hPc := hP.sub (ws' := [(h0, .inr (0, [.ref ait, .int asz])), (ait, .inl (cI, 64, .inl anf))]) [0, 1] rfl
  have hDc := hD.sub (ws' := [(h0, .inr (0, [.ref ait, .int asz])), (ait, .inl (cI, 64, .inl anf))]) [0, 1] (by decide) rfl
  have hFc := va_free (wc := [(h0, .inr (0, [.ref ait, .int asz])), (ait, .inl (cI, 64, .inl anf))]) hD hS hA [0, 1] rfl
  refine vx_calli (wc := [(h0, .inr (0, [.ref ait, .int asz])), (ait, .inl (cI, 64, .inl anf))]) (wr := []) hP hD hS hA [0, 1] [] rfl rfl (by decide) (by decide) (va_runV (As := []) (rest := []) ⟨hx, hb, hml, hown, hts⟩ (a_isFull64 l dC dI cI cC cZ _ h0 ait asz anf (show 0 ≤ asz.toInt ∧ asz.toInt ≤ 64 from ⟨by omega, by omega⟩)) (cwV 0 hts gX1_add_X1_isFull rfl rfl rfl hv_yX1_isFull ⟨Nat.le_of_ble_eq_true rfl, Nat.le_of_ble_eq_true rfl⟩) ⟨vx_blind, va_recv hK hPc (ci := 0) (q0 := 0) rfl rfl, vx_pre hK hPc hDc hN hS hFc⟩ rfl rfl hl.1 rfl (lv_room (Nat.le_of_ble_eq_true rfl)) dX1_add_1 ⟨Nat.le_of_ble_eq_true rfl, Nat.le_of_ble_eq_true rfl⟩) (fun r2 u1 H locs hw3 hP hD hS => ?_)
  have hP : va_P (dC, dI) vwCl [(h0, .inr (0, [.ref ait, .int asz])), (ait, .inl (cI, 64, .inl anf))] H := hP
  have hD : va_D A [(h0, .inr (0, [.ref ait, .int asz])), (ait, .inl (cI, 64, .inl anf))] := hD
  obtain ⟨hr2, -⟩ := hw3
  rcases hr2 with er2 | ⟨er2, kr20⟩
  · subst er2
    have J27 : ∀ (g27_0_1 : Int32) (w27_1 : Nat → Int32), (0 ≤ g27_0_1.toInt ∧ g27_0_1.toInt ≤ 64) → ∀ (H : Heap) (locs : List Loc) (ls : Array Slot), lv_has ls 2 [] → va_P (dC, dI) vwCl [(h0, .inr (0, [.ref ait, .int g27_0_1])), (ait, .inl (cI, 64, .inl w27_1))] H → va_D A [(h0, .inr (0, [.ref ait, .int g27_0_1])), (ait, .inl (cI, 64, .inl w27_1))] → va_S A s.heap H locs → W p l e (headSpec wsX1_add ({ frames := 1, cells := 0, slots := 0, locals := 20 })).room s m ([.ref h0, .int v].toArray) below meth c H locs 0 0 (MQ below (va_Qv (fun (u : (Nat → Int32) × (Nat → Nat → Int32)) => (0 ≤ (u.1 0).toInt ∧ (u.1 0).toInt ≤ 64) ∧ True) (vx_C (dC, dI) (vx_T cI cC cZ) A (fun (u : (Nat → Int32) × (Nat → Nat → Int32)) => [(h0, .inr (0, [.ref ait, .int (u.1 0)])), (ait, .inl (cI, 64, .inl (u.2 0)))])) A) ([.ref h0, .int v].toArray) s 0 0 A) (F0 m 27 ls []) := by
      intro g27_0_1 w27_1 b_g27_0_1 H locs ls hl hP hD hS
      exact vx_vret (u := ((fun k => ([g27_0_1] : List Int32).getD k 0), (fun k => ([w27_1] : List (Nat → Int32)).getD k (fun _ => 0)))) hx hb hr hlocks hK hP hD hS [0, 1] rfl (by decide) ⟨(show 0 ≤ g27_0_1.toInt ∧ g27_0_1.toInt ≤ 64 from ⟨by omega, by omega⟩), trivial⟩ dX1_add_27
    refine lv_if_ne (tgt := 27) hx hb dX1_add_4 (by decide) (fun _ => ?_) (fun c0 => absurd c0 (by decide))
    exact J27 asz anf ⟨by omega, by omega⟩ _ _ _ (lv_sub hl [] rfl) (hP.sub [0, 1] rfl) (hD.sub [0, 1] (by decide) rfl) hS
  · subst er2
    have kr20 : asz.toInt < 64 := kr20
    have J27 : ∀ (g27_0_1 : Int32) (w27_1 : Nat → Int32), (0 ≤ g27_0_1.toInt ∧ g27_0_1.toInt ≤ 64) → ∀ (H : Heap) (locs : List Loc) (ls : Array Slot), lv_has ls 2 [] → va_P (dC, dI) vwCl [(h0, .inr (0, [.ref ait, .int g27_0_1])), (ait, .inl (cI, 64, .inl w27_1))] H → va_D A [(h0, .inr (0, [.ref ait, .int g27_0_1])), (ait, .inl (cI, 64, .inl w27_1))] → va_S A s.heap H locs → W p l e (headSpec wsX1_add ({ frames := 1, cells := 0, slots := 0, locals := 20 })).room s m ([.ref h0, .int v].toArray) below meth c H locs 0 0 (MQ below (va_Qv (fun (u : (Nat → Int32) × (Nat → Nat → Int32)) => (0 ≤ (u.1 0).toInt ∧ (u.1 0).toInt ≤ 64) ∧ True) (vx_C (dC, dI) (vx_T cI cC cZ) A (fun (u : (Nat → Int32) × (Nat → Nat → Int32)) => [(h0, .inr (0, [.ref ait, .int (u.1 0)])), (ait, .inl (cI, 64, .inl (u.2 0)))])) A) ([.ref h0, .int v].toArray) s 0 0 A) (F0 m 27 ls []) := by
      intro g27_0_1 w27_1 b_g27_0_1 H locs ls hl hP hD hS
      exact vx_vret (u := ((fun k => ([g27_0_1] : List Int32).getD k 0), (fun k => ([w27_1] : List (Nat → Int32)).getD k (fun _ => 0)))) hx hb hr hlocks hK hP hD hS [0, 1] rfl (by decide) ⟨(show 0 ≤ g27_0_1.toInt ∧ g27_0_1.toInt ≤ 64 from ⟨by omega, by omega⟩), trivial⟩ dX1_add_27
    refine lv_if_ne (tgt := 27) hx hb dX1_add_4 (by decide) (fun c0 => absurd (by decide) c0) (fun _ => ?_)
    refine lv_aload_n hx hb dX1_add_7 rfl (lv_at hl 0 rfl) ?_
    refine va_get (D := (dC, dI)) (ci := 0) (v := .ref ait) (C := RX1) (T := TX1) (N := 2) hx hb hts iX1 hown hK hP 0 rfl rfl 0 (by decide) (hts (.fieldLink RX1 13 "NeighboursMark$Numbers" "items" "[I") (vm_at 1 rfl)) (fun _ h9 => h9) rfl dX1_add_8 ?_
    refine lv_aload_n hx hb dX1_add_11 rfl (lv_at hl 0 rfl) ?_
    refine va_get (D := (dC, dI)) (ci := 0) (v := .int asz) (C := RX1) (T := TX1) (N := 2) hx hb hts iX1 hown hK hP 0 rfl rfl 1 (by decide) (hts (.fieldLink RX1 19 "NeighboursMark$Numbers" "size" "I") (vm_at 2 rfl)) (fun _ h9 => h9) rfl dX1_add_12 ?_
    refine lv_iload_n hx hb dX1_add_15 rfl (lv_at hl 1 rfl) ?_
    refine va_iast hx hb hK hP hD hS 1 0 rfl rfl (vp_in_iff.mpr ⟨by omega, by omega⟩) dX1_add_16 (fun H locs hP hD hS => ?_)
    obtain ⟨wf4, ewf4⟩ : ∃ z : Nat → Int32, z = upd anf asz.toNatClampNeg v := ⟨_, rfl⟩
    rw [← ewf4] at hP hD
    have hP : va_P (dC, dI) vwCl [(h0, .inr (0, [.ref ait, .int asz])), (ait, .inl (cI, 64, .inl wf4))] H := hP
    have hD : va_D A [(h0, .inr (0, [.ref ait, .int asz])), (ait, .inl (cI, 64, .inl wf4))] := hD
    refine lv_aload_n hx hb dX1_add_17 rfl (lv_at hl 0 rfl) ?_
    refine lv_dup hx hb dX1_add_18 rfl ?_
    refine va_get (D := (dC, dI)) (ci := 0) (v := .int asz) (C := RX1) (T := TX1) (N := 2) hx hb hts iX1 hown hK hP 0 rfl rfl 1 (by decide) (hts (.fieldLink RX1 19 "NeighboursMark$Numbers" "size" "I") (vm_at 2 rfl)) (fun _ h9 => h9) rfl dX1_add_19 ?_
    refine lv_iconst (v := 1) hx hb dX1_add_22 (by decide) ?_
    refine lv_iadd hx hb dX1_add_23 ?_
    have f5 := vy_add (x := asz) (y := 1) rfl (show ((1 : Int32)).toInt = 1 by decide) (by omega) (by omega)
    refine va_put (D := (dC, dI)) (ci := 0) (v := .int (asz + 1)) (ty := .int) (C := RX1) (T := TX1) (N := 2) hx hb hts iX1 tyX1 tyX1_ok nmX1 hown hK hP hD hS 0 rfl rfl 1 (by decide) (hts (.fieldLink RX1 19 "NeighboursMark$Numbers" "size" "I") (vm_at 2 rfl)) (fun _ h9 => h9) rfl (tyX1_ok 1 (by decide)) rfl rfl (Nat.le_of_ble_eq_true rfl) dX1_add_24 (fun H locs hP hD hS => ?_)
    have hP : va_P (dC, dI) vwCl [(h0, .inr (0, [.ref ait, .int (asz + 1)])), (ait, .inl (cI, 64, .inl wf4))] H := hP
    have hD : va_D A [(h0, .inr (0, [.ref ait, .int (asz + 1)])), (ait, .inl (cI, 64, .inl wf4))] := hD
    exact J27 (asz + 1) wf4 ⟨by omega, by omega⟩ _ _ _ (lv_sub hl [] rfl) (hP.sub [0, 1] rfl) (hD.sub [0, 1] (by decide) rfl) hS
set_option maxHeartbeats 8000000 in
set_option maxRecDepth 100000 in
theorem a_at64 (l : Launch) (dC : Nat → ClassId) (dI : Nat → Nat → Nat) (cI cC cZ : ClassId) (sz : Nat) (h0 ait : Nat) (v asz : Int32) (anf : Nat → Int32) (b_asz : 0 ≤ asz.toInt ∧ asz.toInt ≤ 64) : Met l yX1_at wsX1_at ({ frames := 0, cells := 0, slots := 0, locals := 0 }) (va_Pc [.ref h0, .int v] (vx_B (dC, dI) (vx_T cI cC cZ) sz [(h0, .inr (0, [.ref ait, .int asz])), (ait, .inl (cI, 64, .inl anf))])) (va_Qi (fun (r : Int32) (u : (Nat → Int32) × (Nat → Nat → Int32)) => (True) ∧ True) (vx_C (dC, dI) (vx_T cI cC cZ) (va_A [(h0, .inr (0, [.ref ait, .int asz])), (ait, .inl (cI, 64, .inl anf))] sz) (fun (u : (Nat → Int32) × (Nat → Nat → Int32)) => [(h0, .inr (0, [.ref ait, .int asz])), (ait, .inl (cI, 64, .inl anf))])) (va_A [(h0, .inr (0, [.ref ait, .int asz])), (ait, .inl (cI, 64, .inl anf))] sz)) 0 0 (va_A [(h0, .inr (0, [.ref ait, .int asz])), (ait, .inl (cI, 64, .inl anf))] sz) := by
  refine Met.ofW (cc := cX1_at) (maxL := 2) (ret := (some .int)) (by decide) rfl ?_
  intro p e s m args below meth c s₁ B hml hv
  obtain ⟨rfl, hsz, hP, hK, hD0, hN⟩ := hv
  have hx := B.exec
  have hb := B.bytes
  have hr := B.returns
  have hts := atoms_spec (ws := wsX1_at) B.pre
  have hown : s.vm.findClass RX1 = some m.cls := findClass_of_methodNamed B.named
  have hlocks := B.notSynchronized
  subst hsz
  have hD := hD0.self (sz := s.heap.size)
  generalize hAe : va_A [(h0, .inr (0, [.ref ait, .int asz])), (ait, .inl (cI, 64, .inl anf))] s.heap.size = A at hD hN ⊢
  have hA : ∀ q : Nat, s.heap.size ≤ q → A q := fun q h => by rw [← hAe]; exact Or.inr h
  have hS : va_S A s.heap s.heap [] := va_S.rf
  have hl := lv_entry ([.ref h0, .int v]) (n := 2) (Nat.le_of_ble_eq_true rfl)
  rw [lg_entry_eq]
  generalize (lg_sl ([.ref h0, .int v]) ++ List.replicate (2 - (lg_sl ([.ref h0, .int v])).length) Slot.unset).toArray = ls at hl ⊢
  have hl : lv_has ls 2 [(0, .ref h0), (1, .int v)] := hl
  have iX1 : ∀ w ∈ u_ws RX1 TX1 2, w ∈ wsX1_at := fun w h => (List.mem_cons_of_mem _ (List.mem_append_right _ h))
  refine lv_iload_n hx hb dX1_at_0 rfl (lv_at hl 1 rfl) ?_
  have J22 : ∀ (s22_0 : Int32), ∀ (H : Heap) (locs : List Loc) (ls : Array Slot), lv_has ls 2 [] → va_P (dC, dI) vwCl [(h0, .inr (0, [.ref ait, .int asz])), (ait, .inl (cI, 64, .inl anf))] H → va_D A [(h0, .inr (0, [.ref ait, .int asz])), (ait, .inl (cI, 64, .inl anf))] → va_S A s.heap H locs → W p l e (headSpec wsX1_at ({ frames := 0, cells := 0, slots := 0, locals := 0 })).room s m ([.ref h0, .int v].toArray) below meth c H locs 0 0 (MQ below (va_Qi (fun (r : Int32) (u : (Nat → Int32) × (Nat → Nat → Int32)) => (True) ∧ True) (vx_C (dC, dI) (vx_T cI cC cZ) A (fun (u : (Nat → Int32) × (Nat → Nat → Int32)) => [(h0, .inr (0, [.ref ait, .int asz])), (ait, .inl (cI, 64, .inl anf))])) A) ([.ref h0, .int v].toArray) s 0 0 A) (F0 m 22 ls [.int s22_0]) := by
    intro s22_0 H locs ls hl hP hD hS
    exact vx_iret (u := ((fun k => ([] : List Int32).getD k 0), (fun k => ([] : List (Nat → Int32)).getD k (fun _ => 0)))) hx hb hr hlocks hK hP hD hS [0, 1] rfl (by decide) ⟨trivial, trivial⟩ dX1_at_22
  have J21 : ∀ (H : Heap) (locs : List Loc) (ls : Array Slot), lv_has ls 2 [] → va_P (dC, dI) vwCl [(h0, .inr (0, [.ref ait, .int asz])), (ait, .inl (cI, 64, .inl anf))] H → va_D A [(h0, .inr (0, [.ref ait, .int asz])), (ait, .inl (cI, 64, .inl anf))] → va_S A s.heap H locs → W p l e (headSpec wsX1_at ({ frames := 0, cells := 0, slots := 0, locals := 0 })).room s m ([.ref h0, .int v].toArray) below meth c H locs 0 0 (MQ below (va_Qi (fun (r : Int32) (u : (Nat → Int32) × (Nat → Nat → Int32)) => (True) ∧ True) (vx_C (dC, dI) (vx_T cI cC cZ) A (fun (u : (Nat → Int32) × (Nat → Nat → Int32)) => [(h0, .inr (0, [.ref ait, .int asz])), (ait, .inl (cI, 64, .inl anf))])) A) ([.ref h0, .int v].toArray) s 0 0 A) (F0 m 21 ls []) := by
    intro  H locs ls hl hP hD hS
    refine lv_iconst (v := (-1)) hx hb dX1_at_21 (by decide) ?_
    exact J22 ((-1)) _ _ _ (lv_sub hl [] rfl) (hP.sub [0, 1] rfl) (hD.sub [0, 1] (by decide) rfl) hS
  refine lv_if_lt (tgt := 21) hx hb dX1_at_1 (by decide) (fun c1 => ?_) (fun c1 => ?_)
  · have c1 : v.toInt < 0 := vy_lt c1
    exact J21 _ _ _ (lv_sub hl [] rfl) (hP.sub [0, 1] rfl) (hD.sub [0, 1] (by decide) rfl) hS
  · have c1 : v.toInt ≥ 0 := vy_nlt c1
    refine lv_iload_n hx hb dX1_at_4 rfl (lv_at hl 1 rfl) ?_
    refine lv_aload_n hx hb dX1_at_5 rfl (lv_at hl 0 rfl) ?_
    refine va_get (D := (dC, dI)) (ci := 0) (v := .int asz) (C := RX1) (T := TX1) (N := 2) hx hb hts iX1 hown hK hP 0 rfl rfl 1 (by decide) (hts (.fieldLink RX1 19 "NeighboursMark$Numbers" "size" "I") (vm_at 1 rfl)) (fun _ h9 => h9) rfl dX1_at_6 ?_
    refine lv_icmp_ge (tgt := 21) hx hb dX1_at_9 (by decide) (fun c2 => ?_) (fun c2 => ?_)
    · have c2 : v.toInt ≥ asz.toInt := vy_le c2
      exact J21 _ _ _ (lv_sub hl [] rfl) (hP.sub [0, 1] rfl) (hD.sub [0, 1] (by decide) rfl) hS
    · have c2 : v.toInt < asz.toInt := vy_nle c2
      refine lv_aload_n hx hb dX1_at_12 rfl (lv_at hl 0 rfl) ?_
      refine va_get (D := (dC, dI)) (ci := 0) (v := .ref ait) (C := RX1) (T := TX1) (N := 2) hx hb hts iX1 hown hK hP 0 rfl rfl 0 (by decide) (hts (.fieldLink RX1 13 "NeighboursMark$Numbers" "items" "[I") (vm_at 2 rfl)) (fun _ h9 => h9) rfl dX1_at_13 ?_
      refine lv_iload_n hx hb dX1_at_16 rfl (lv_at hl 1 rfl) ?_
      refine va_iald hx hb hK hP 1 0 rfl rfl (vp_in_iff.mpr ⟨by omega, by omega⟩) dX1_at_17 ?_
      refine lv_topi (fun x3 _ => ?_)
      refine lv_goto (tgt := 22) hx hb dX1_at_18 (by decide) ?_
      exact J22 x3 _ _ _ (lv_sub hl [] rfl) (hP.sub [0, 1] rfl) (hD.sub [0, 1] (by decide) rfl) hS
set_option maxHeartbeats 8000000 in
set_option maxRecDepth 100000 in
theorem a_clear64 (l : Launch) (dC : Nat → ClassId) (dI : Nat → Nat → Nat) (cI cC cZ : ClassId) (sz : Nat) (h0 ait : Nat) (asz : Int32) (anf : Nat → Int32) (b_asz : 0 ≤ asz.toInt ∧ asz.toInt ≤ 64) : Met l yX1_clear wsX1_clear ({ frames := 0, cells := 0, slots := 0, locals := 0 }) (va_Pc [.ref h0] (vx_B (dC, dI) (vx_T cI cC cZ) sz [(h0, .inr (0, [.ref ait, .int asz])), (ait, .inl (cI, 64, .inl anf))])) (va_Qv (fun (u : (Nat → Int32) × (Nat → Nat → Int32)) => True) (vx_C (dC, dI) (vx_T cI cC cZ) (va_A [(h0, .inr (0, [.ref ait, .int asz])), (ait, .inl (cI, 64, .inl anf))] sz) (fun (u : (Nat → Int32) × (Nat → Nat → Int32)) => [(h0, .inr (0, [.ref ait, .int 0])), (ait, .inl (cI, 64, .inl anf))])) (va_A [(h0, .inr (0, [.ref ait, .int asz])), (ait, .inl (cI, 64, .inl anf))] sz)) 0 0 (va_A [(h0, .inr (0, [.ref ait, .int asz])), (ait, .inl (cI, 64, .inl anf))] sz) := by
  refine Met.ofW (cc := cX1_clear) (maxL := 1) (ret := none) (by decide) rfl ?_
  intro p e s m args below meth c s₁ B hml hv
  obtain ⟨rfl, hsz, hP, hK, hD0, hN⟩ := hv
  have hx := B.exec
  have hb := B.bytes
  have hr := B.returns
  have hts := atoms_spec (ws := wsX1_clear) B.pre
  have hown : s.vm.findClass RX1 = some m.cls := findClass_of_methodNamed B.named
  have hlocks := B.notSynchronized
  subst hsz
  have hD := hD0.self (sz := s.heap.size)
  generalize hAe : va_A [(h0, .inr (0, [.ref ait, .int asz])), (ait, .inl (cI, 64, .inl anf))] s.heap.size = A at hD hN ⊢
  have hA : ∀ q : Nat, s.heap.size ≤ q → A q := fun q h => by rw [← hAe]; exact Or.inr h
  have hS : va_S A s.heap s.heap [] := va_S.rf
  have hl := lv_entry ([.ref h0]) (n := 1) (Nat.le_of_ble_eq_true rfl)
  rw [lg_entry_eq]
  generalize (lg_sl ([.ref h0]) ++ List.replicate (1 - (lg_sl ([.ref h0])).length) Slot.unset).toArray = ls at hl ⊢
  have hl : lv_has ls 1 [(0, .ref h0)] := hl
  have iX1 : ∀ w ∈ u_ws RX1 TX1 2, w ∈ wsX1_clear := fun w h => (List.mem_cons_of_mem _ (List.mem_append_right _ h))
  refine lv_aload_n hx hb dX1_clear_0 rfl (lv_at hl 0 rfl) ?_
  refine lv_iconst (v := 0) hx hb dX1_clear_1 (by decide) ?_
  refine va_put (D := (dC, dI)) (ci := 0) (v := .int 0) (ty := .int) (C := RX1) (T := TX1) (N := 2) hx hb hts iX1 tyX1 tyX1_ok nmX1 hown hK hP hD hS 0 rfl rfl 1 (by decide) (hts (.fieldLink RX1 19 "NeighboursMark$Numbers" "size" "I") (vm_at 1 rfl)) (fun _ h9 => h9) rfl (tyX1_ok 1 (by decide)) rfl rfl (Nat.le_of_ble_eq_true rfl) dX1_clear_2 (fun H locs hP hD hS => ?_)
  have hP : va_P (dC, dI) vwCl [(h0, .inr (0, [.ref ait, .int 0])), (ait, .inl (cI, 64, .inl anf))] H := hP
  have hD : va_D A [(h0, .inr (0, [.ref ait, .int 0])), (ait, .inl (cI, 64, .inl anf))] := hD
  exact vx_vret (u := ((fun k => ([] : List Int32).getD k 0), (fun k => ([] : List (Nat → Int32)).getD k (fun _ => 0)))) hx hb hr hlocks hK hP hD hS [0, 1] rfl (by decide) trivial dX1_clear_5
set_option maxHeartbeats 8000000 in
set_option maxRecDepth 100000 in
theorem a_ncopy64 (l : Launch) (dC : Nat → ClassId) (dI : Nat → Nat → Nat) (cI cC cZ : ClassId) (sz : Nat) (h0 h1 ait bit : Nat) (asz bsz : Int32) (anf bnf : Nat → Int32) (b_asz : 0 ≤ asz.toInt ∧ asz.toInt ≤ 64) (b_bsz : 0 ≤ bsz.toInt ∧ bsz.toInt ≤ 64) : Met l yX1_copyFrom wsX1_copyFrom ({ frames := 1, cells := 0, slots := 0, locals := 40 }) (va_Pc [.ref h0, .ref h1] (vx_B (dC, dI) (vx_T cI cC cZ) sz [(h0, .inr (0, [.ref ait, .int asz])), (ait, .inl (cI, 64, .inl anf)), (h1, .inr (0, [.ref bit, .int bsz])), (bit, .inl (cI, 64, .inl bnf))])) (va_Qv (fun (u : (Nat → Int32) × (Nat → Nat → Int32)) => (0 ≤ (u.1 0).toInt ∧ (u.1 0).toInt ≤ 64) ∧ True) (vx_C (dC, dI) (vx_T cI cC cZ) (va_A [(h0, .inr (0, [.ref ait, .int asz])), (ait, .inl (cI, 64, .inl anf)), (h1, .inr (0, [.ref bit, .int bsz])), (bit, .inl (cI, 64, .inl bnf))] sz) (fun (u : (Nat → Int32) × (Nat → Nat → Int32)) => [(h0, .inr (0, [.ref ait, .int (u.1 0)])), (ait, .inl (cI, 64, .inl (u.2 0))), (h1, .inr (0, [.ref bit, .int bsz])), (bit, .inl (cI, 64, .inl bnf))])) (va_A [(h0, .inr (0, [.ref ait, .int asz])), (ait, .inl (cI, 64, .inl anf)), (h1, .inr (0, [.ref bit, .int bsz])), (bit, .inl (cI, 64, .inl bnf))] sz)) 0 0 (va_A [(h0, .inr (0, [.ref ait, .int asz])), (ait, .inl (cI, 64, .inl anf)), (h1, .inr (0, [.ref bit, .int bsz])), (bit, .inl (cI, 64, .inl bnf))] sz) := by
  refine Met.ofW (cc := cX1_copyFrom) (maxL := 2) (ret := none) (by decide) rfl ?_
  intro p e s m args below meth c s₁ B hml hv
  obtain ⟨rfl, hsz, hP, hK, hD0, hN⟩ := hv
  have hx := B.exec
  have hb := B.bytes
  have hr := B.returns
  have hts := atoms_spec (ws := wsX1_copyFrom) B.pre
  have hown : s.vm.findClass RX1 = some m.cls := findClass_of_methodNamed B.named
  have hlocks := B.notSynchronized
  subst hsz
  have hD := hD0.self (sz := s.heap.size)
  generalize hAe : va_A [(h0, .inr (0, [.ref ait, .int asz])), (ait, .inl (cI, 64, .inl anf)), (h1, .inr (0, [.ref bit, .int bsz])), (bit, .inl (cI, 64, .inl bnf))] s.heap.size = A at hD hN ⊢
  have hA : ∀ q : Nat, s.heap.size ≤ q → A q := fun q h => by rw [← hAe]; exact Or.inr h
  have hS : va_S A s.heap s.heap [] := va_S.rf
  have hl := lv_entry ([.ref h0, .ref h1]) (n := 2) (Nat.le_of_ble_eq_true rfl)
  rw [lg_entry_eq]
  generalize (lg_sl ([.ref h0, .ref h1]) ++ List.replicate (2 - (lg_sl ([.ref h0, .ref h1])).length) Slot.unset).toArray = ls at hl ⊢
  have hl : lv_has ls 2 [(0, .ref h0), (1, .ref h1)] := hl
  have iX1 : ∀ w ∈ u_ws RX1 TX1 2, w ∈ wsX1_copyFrom := fun w h => (List.mem_cons_of_mem _ (List.mem_append_right _ h))
  refine lv_aload_n hx hb dX1_copyFrom_0 rfl (lv_at hl 0 rfl) ?_
  refine lv_aload_n hx hb dX1_copyFrom_1 rfl (lv_at hl 1 rfl) ?_
  refine va_get (D := (dC, dI)) (ci := 0) (v := .int bsz) (C := RX1) (T := TX1) (N := 2) hx hb hts iX1 hown hK hP 2 rfl rfl 1 (by decide) (hts (.fieldLink RX1 19 "NeighboursMark$Numbers" "size" "I") (vm_at 1 rfl)) (fun _ h9 => h9) rfl dX1_copyFrom_2 ?_
  refine lv_aload_n hx hb dX1_copyFrom_5 rfl (lv_at hl 0 rfl) ?_
  refine va_get (D := (dC, dI)) (ci := 0) (v := .ref ait) (C := RX1) (T := TX1) (N := 2) hx hb hts iX1 hown hK hP 0 rfl rfl 0 (by decide) (hts (.fieldLink RX1 13 "NeighboursMark$Numbers" "items" "[I") (vm_at 2 rfl)) (fun _ h9 => h9) rfl dX1_copyFrom_6 ?_
  refine va_alen hx hb hK hP 1 0 rfl rfl (v := 64) rfl dX1_copyFrom_9 ?_
  refine va_mmin hx hb (by rw [hml]; exact hl.1.symm) hown (hts (.methodLink RX1 27 Lib.Math.min.name) (vm_at 3 rfl)) (hts (.static Lib.Math.min.name) (vm_at 4 rfl)) (hts (.initialized "java/lang/Math") (vm_at 5 rfl)) (hts (.code Lib.Math.min.name Lib.Math.min.code 2 (some .int)) (vm_at 6 rfl)) (Nat.le_of_ble_eq_true rfl) (Nat.le_of_ble_eq_true rfl) (Nat.le_of_ble_eq_true rfl) (Nat.le_of_ble_eq_true rfl) dX1_copyFrom_10 ?_
  refine lv_topi (fun x1 ex1 => ?_)
  have fx1 := vy_min ex1 rfl (show ((64 : Int32)).toInt = 64 by decide)
  refine va_put (D := (dC, dI)) (ci := 0) (v := .int x1) (ty := .int) (C := RX1) (T := TX1) (N := 2) hx hb hts iX1 tyX1 tyX1_ok nmX1 hown hK hP hD hS 0 rfl rfl 1 (by decide) (hts (.fieldLink RX1 19 "NeighboursMark$Numbers" "size" "I") (vm_at 1 rfl)) (fun _ h9 => h9) rfl (tyX1_ok 1 (by decide)) rfl rfl (Nat.le_of_ble_eq_true rfl) dX1_copyFrom_13 (fun H locs hP hD hS => ?_)
  have hP : va_P (dC, dI) vwCl [(h0, .inr (0, [.ref ait, .int x1])), (ait, .inl (cI, 64, .inl anf)), (h1, .inr (0, [.ref bit, .int bsz])), (bit, .inl (cI, 64, .inl bnf))] H := hP
  have hD : va_D A [(h0, .inr (0, [.ref ait, .int x1])), (ait, .inl (cI, 64, .inl anf)), (h1, .inr (0, [.ref bit, .int bsz])), (bit, .inl (cI, 64, .inl bnf))] := hD
  refine lv_aload_n hx hb dX1_copyFrom_16 rfl (lv_at hl 1 rfl) ?_
  refine va_get (D := (dC, dI)) (ci := 0) (v := .ref bit) (C := RX1) (T := TX1) (N := 2) hx hb hts iX1 hown hK hP 2 rfl rfl 0 (by decide) (hts (.fieldLink RX1 13 "NeighboursMark$Numbers" "items" "[I") (vm_at 2 rfl)) (fun _ h9 => h9) rfl dX1_copyFrom_17 ?_
  refine lv_iconst (v := 0) hx hb dX1_copyFrom_20 (by decide) ?_
  refine lv_aload_n hx hb dX1_copyFrom_21 rfl (lv_at hl 0 rfl) ?_
  refine va_get (D := (dC, dI)) (ci := 0) (v := .ref ait) (C := RX1) (T := TX1) (N := 2) hx hb hts iX1 hown hK hP 0 rfl rfl 0 (by decide) (hts (.fieldLink RX1 13 "NeighboursMark$Numbers" "items" "[I") (vm_at 2 rfl)) (fun _ h9 => h9) rfl dX1_copyFrom_22 ?_
  refine lv_iconst (v := 0) hx hb dX1_copyFrom_25 (by decide) ?_
  refine lv_aload_n hx hb dX1_copyFrom_26 rfl (lv_at hl 0 rfl) ?_
  refine va_get (D := (dC, dI)) (ci := 0) (v := .int x1) (C := RX1) (T := TX1) (N := 2) hx hb hts iX1 hown hK hP 0 rfl rfl 1 (by decide) (hts (.fieldLink RX1 19 "NeighboursMark$Numbers" "size" "I") (vm_at 1 rfl)) (fun _ h9 => h9) rfl dX1_copyFrom_27 ?_
  refine va_copyi hx hb (by rw [hml]; exact hl.1.symm) hown (hts (.methodLink RX1 30 arraycopyName) (vm_at 7 rfl)) (hts (.native arraycopyName) (vm_at 8 rfl)) (hts (.static arraycopyName) (vm_at 9 rfl)) (hts (.initialized "java/lang/System") (vm_at 10 rfl)) hK hP hD hS 3 1 0 0 rfl rfl rfl rfl rfl (by decide) (by decide) (vy_nn (by omega)) (vy_cl (by omega) (by omega)) (vy_cl (by omega) (by omega)) (fun _ _ => rfl) (Nat.le_of_ble_eq_true rfl) (Nat.le_of_ble_eq_true rfl) dX1_copyFrom_30 (fun H locs hP hD hS => ?_)
  obtain ⟨wf2, ewf2⟩ : ∃ z : Nat → Int32, z = va_cpy bnf anf (0 : Int32).toNatClampNeg (0 : Int32).toNatClampNeg x1.toNatClampNeg := ⟨_, rfl⟩
  rw [← ewf2] at hP hD
  have hP : va_P (dC, dI) vwCl [(h0, .inr (0, [.ref ait, .int x1])), (ait, .inl (cI, 64, .inl wf2)), (h1, .inr (0, [.ref bit, .int bsz])), (bit, .inl (cI, 64, .inl bnf))] H := hP
  have hD : va_D A [(h0, .inr (0, [.ref ait, .int x1])), (ait, .inl (cI, 64, .inl wf2)), (h1, .inr (0, [.ref bit, .int bsz])), (bit, .inl (cI, 64, .inl bnf))] := hD
  exact vx_vret (u := ((fun k => ([x1] : List Int32).getD k 0), (fun k => ([wf2] : List (Nat → Int32)).getD k (fun _ => 0)))) hx hb hr hlocks hK hP hD hS [0, 1, 2, 3] rfl (by decide) ⟨(show 0 ≤ x1.toInt ∧ x1.toInt ≤ 64 from ⟨by omega, by omega⟩), trivial⟩ dX1_copyFrom_33
set_option maxHeartbeats 8000000 in
set_option maxRecDepth 100000 in
theorem a_isFull6 (l : Launch) (dC : Nat → ClassId) (dI : Nat → Nat → Nat) (cI cC cZ : ClassId) (sz : Nat) (h0 ait : Nat) (asz : Int32) (anf : Nat → Int32) (b_asz : 0 ≤ asz.toInt ∧ asz.toInt ≤ 6) : Met l yX1_isFull wsX1_isFull ({ frames := 0, cells := 0, slots := 0, locals := 0 }) (va_Pc [.ref h0] (vx_B (dC, dI) (vx_T cI cC cZ) sz [(h0, .inr (0, [.ref ait, .int asz])), (ait, .inl (cI, 6, .inl anf))])) (va_Qi (fun (r : Int32) (u : (Nat → Int32) × (Nat → Nat → Int32)) => ((r = 1) ∨ (r = 0 ∧ asz.toInt < 6)) ∧ True) (vx_C (dC, dI) (vx_T cI cC cZ) (va_A [(h0, .inr (0, [.ref ait, .int asz])), (ait, .inl (cI, 6, .inl anf))] sz) (fun (u : (Nat → Int32) × (Nat → Nat → Int32)) => [(h0, .inr (0, [.ref ait, .int asz])), (ait, .inl (cI, 6, .inl anf))])) (va_A [(h0, .inr (0, [.ref ait, .int asz])), (ait, .inl (cI, 6, .inl anf))] sz)) 0 0 (va_A [(h0, .inr (0, [.ref ait, .int asz])), (ait, .inl (cI, 6, .inl anf))] sz) := by
  refine Met.ofW (cc := cX1_isFull) (maxL := 1) (ret := (some .boolean)) (by decide) rfl ?_
  intro p e s m args below meth c s₁ B hml hv
  obtain ⟨rfl, hsz, hP, hK, hD0, hN⟩ := hv
  have hx := B.exec
  have hb := B.bytes
  have hr := B.returns
  have hts := atoms_spec (ws := wsX1_isFull) B.pre
  have hown : s.vm.findClass RX1 = some m.cls := findClass_of_methodNamed B.named
  have hlocks := B.notSynchronized
  subst hsz
  have hD := hD0.self (sz := s.heap.size)
  generalize hAe : va_A [(h0, .inr (0, [.ref ait, .int asz])), (ait, .inl (cI, 6, .inl anf))] s.heap.size = A at hD hN ⊢
  have hA : ∀ q : Nat, s.heap.size ≤ q → A q := fun q h => by rw [← hAe]; exact Or.inr h
  have hS : va_S A s.heap s.heap [] := va_S.rf
  have hl := lv_entry ([.ref h0]) (n := 1) (Nat.le_of_ble_eq_true rfl)
  rw [lg_entry_eq]
  generalize (lg_sl ([.ref h0]) ++ List.replicate (1 - (lg_sl ([.ref h0])).length) Slot.unset).toArray = ls at hl ⊢
  have hl : lv_has ls 1 [(0, .ref h0)] := hl
  have iX1 : ∀ w ∈ u_ws RX1 TX1 2, w ∈ wsX1_isFull := fun w h => (List.mem_cons_of_mem _ (List.mem_append_right _ h))
  refine lv_aload_n hx hb dX1_isFull_0 rfl (lv_at hl 0 rfl) ?_
  refine va_get (D := (dC, dI)) (ci := 0) (v := .int asz) (C := RX1) (T := TX1) (N := 2) hx hb hts iX1 hown hK hP 0 rfl rfl 1 (by decide) (hts (.fieldLink RX1 19 "NeighboursMark$Numbers" "size" "I") (vm_at 1 rfl)) (fun _ h9 => h9) rfl dX1_isFull_1 ?_
  refine lv_aload_n hx hb dX1_isFull_4 rfl (lv_at hl 0 rfl) ?_
  refine va_get (D := (dC, dI)) (ci := 0) (v := .ref ait) (C := RX1) (T := TX1) (N := 2) hx hb hts iX1 hown hK hP 0 rfl rfl 0 (by decide) (hts (.fieldLink RX1 13 "NeighboursMark$Numbers" "items" "[I") (vm_at 2 rfl)) (fun _ h9 => h9) rfl dX1_isFull_5 ?_
  refine va_alen hx hb hK hP 1 0 rfl rfl (v := 6) rfl dX1_isFull_8 ?_
  refine lv_icmp_lt (tgt := 16) hx hb dX1_isFull_9 (by decide) (fun c1 => ?_) (fun c1 => ?_)
  · have c1 : asz.toInt < 6 := vy_lt c1
    refine lv_iconst (v := 0) hx hb dX1_isFull_16 (by decide) ?_
    exact vx_zret (u := ((fun k => ([] : List Int32).getD k 0), (fun k => ([] : List (Nat → Int32)).getD k (fun _ => 0)))) hx hb hr rfl hlocks hK hP hD hS [0, 1] rfl (by decide) ⟨(Or.inr (⟨rfl, by omega⟩)), trivial⟩ dX1_isFull_17
  · have c1 : asz.toInt ≥ 6 := vy_nlt c1
    refine lv_iconst (v := 1) hx hb dX1_isFull_12 (by decide) ?_
    refine lv_goto (tgt := 17) hx hb dX1_isFull_13 (by decide) ?_
    exact vx_zret (u := ((fun k => ([] : List Int32).getD k 0), (fun k => ([] : List (Nat → Int32)).getD k (fun _ => 0)))) hx hb hr rfl hlocks hK hP hD hS [0, 1] rfl (by decide) ⟨(Or.inl rfl), trivial⟩ dX1_isFull_17
set_option maxHeartbeats 8000000 in
set_option maxRecDepth 100000 in
theorem a_add6 (l : Launch) (dC : Nat → ClassId) (dI : Nat → Nat → Nat) (cI cC cZ : ClassId) (sz : Nat) (h0 ait : Nat) (v asz : Int32) (anf : Nat → Int32) (b_asz : 0 ≤ asz.toInt ∧ asz.toInt ≤ 6) : Met l yX1_add wsX1_add ({ frames := 1, cells := 0, slots := 0, locals := 20 }) (va_Pc [.ref h0, .int v] (vx_B (dC, dI) (vx_T cI cC cZ) sz [(h0, .inr (0, [.ref ait, .int asz])), (ait, .inl (cI, 6, .inl anf))])) (va_Qv (fun (u : (Nat → Int32) × (Nat → Nat → Int32)) => (0 ≤ (u.1 0).toInt ∧ (u.1 0).toInt ≤ 6) ∧ True) (vx_C (dC, dI) (vx_T cI cC cZ) (va_A [(h0, .inr (0, [.ref ait, .int asz])), (ait, .inl (cI, 6, .inl anf))] sz) (fun (u : (Nat → Int32) × (Nat → Nat → Int32)) => [(h0, .inr (0, [.ref ait, .int (u.1 0)])), (ait, .inl (cI, 6, .inl (u.2 0)))])) (va_A [(h0, .inr (0, [.ref ait, .int asz])), (ait, .inl (cI, 6, .inl anf))] sz)) 0 0 (va_A [(h0, .inr (0, [.ref ait, .int asz])), (ait, .inl (cI, 6, .inl anf))] sz) := by
  refine Met.ofW (cc := cX1_add) (maxL := 2) (ret := none) (by decide) rfl ?_
  intro p e s m args below meth c s₁ B hml hv
  obtain ⟨rfl, hsz, hP, hK, hD0, hN⟩ := hv
  have hx := B.exec
  have hb := B.bytes
  have hr := B.returns
  have hts := atoms_spec (ws := wsX1_add) B.pre
  have hown : s.vm.findClass RX1 = some m.cls := findClass_of_methodNamed B.named
  have hlocks := B.notSynchronized
  subst hsz
  have hD := hD0.self (sz := s.heap.size)
  generalize hAe : va_A [(h0, .inr (0, [.ref ait, .int asz])), (ait, .inl (cI, 6, .inl anf))] s.heap.size = A at hD hN ⊢
  have hA : ∀ q : Nat, s.heap.size ≤ q → A q := fun q h => by rw [← hAe]; exact Or.inr h
  have hS : va_S A s.heap s.heap [] := va_S.rf
  have hl := lv_entry ([.ref h0, .int v]) (n := 2) (Nat.le_of_ble_eq_true rfl)
  rw [lg_entry_eq]
  generalize (lg_sl ([.ref h0, .int v]) ++ List.replicate (2 - (lg_sl ([.ref h0, .int v])).length) Slot.unset).toArray = ls at hl ⊢
  have hl : lv_has ls 2 [(0, .ref h0), (1, .int v)] := hl
  have iX1 : ∀ w ∈ u_ws RX1 TX1 2, w ∈ wsX1_add := fun w h => (List.mem_cons_of_mem _ (List.mem_append_right _ h))
  refine lv_aload_n hx hb dX1_add_0 rfl (lv_at hl 0 rfl) ?_
  have hPc := hP.sub (ws' := [(h0, .inr (0, [.ref ait, .int asz])), (ait, .inl (cI, 6, .inl anf))]) [0, 1] rfl
  have hDc := hD.sub (ws' := [(h0, .inr (0, [.ref ait, .int asz])), (ait, .inl (cI, 6, .inl anf))]) [0, 1] (by decide) rfl
  have hFc := va_free (wc := [(h0, .inr (0, [.ref ait, .int asz])), (ait, .inl (cI, 6, .inl anf))]) hD hS hA [0, 1] rfl
  refine vx_calli (wc := [(h0, .inr (0, [.ref ait, .int asz])), (ait, .inl (cI, 6, .inl anf))]) (wr := []) hP hD hS hA [0, 1] [] rfl rfl (by decide) (by decide) (va_runV (As := []) (rest := []) ⟨hx, hb, hml, hown, hts⟩ (a_isFull6 l dC dI cI cC cZ _ h0 ait asz anf (show 0 ≤ asz.toInt ∧ asz.toInt ≤ 6 from ⟨by omega, by omega⟩)) (cwV 0 hts gX1_add_X1_isFull rfl rfl rfl hv_yX1_isFull ⟨Nat.le_of_ble_eq_true rfl, Nat.le_of_ble_eq_true rfl⟩) ⟨vx_blind, va_recv hK hPc (ci := 0) (q0 := 0) rfl rfl, vx_pre hK hPc hDc hN hS hFc⟩ rfl rfl hl.1 rfl (lv_room (Nat.le_of_ble_eq_true rfl)) dX1_add_1 ⟨Nat.le_of_ble_eq_true rfl, Nat.le_of_ble_eq_true rfl⟩) (fun r2 u1 H locs hw3 hP hD hS => ?_)
  have hP : va_P (dC, dI) vwCl [(h0, .inr (0, [.ref ait, .int asz])), (ait, .inl (cI, 6, .inl anf))] H := hP
  have hD : va_D A [(h0, .inr (0, [.ref ait, .int asz])), (ait, .inl (cI, 6, .inl anf))] := hD
  obtain ⟨hr2, -⟩ := hw3
  rcases hr2 with er2 | ⟨er2, kr20⟩
  · subst er2
    have J27 : ∀ (g27_0_1 : Int32) (w27_1 : Nat → Int32), (0 ≤ g27_0_1.toInt ∧ g27_0_1.toInt ≤ 6) → ∀ (H : Heap) (locs : List Loc) (ls : Array Slot), lv_has ls 2 [] → va_P (dC, dI) vwCl [(h0, .inr (0, [.ref ait, .int g27_0_1])), (ait, .inl (cI, 6, .inl w27_1))] H → va_D A [(h0, .inr (0, [.ref ait, .int g27_0_1])), (ait, .inl (cI, 6, .inl w27_1))] → va_S A s.heap H locs → W p l e (headSpec wsX1_add ({ frames := 1, cells := 0, slots := 0, locals := 20 })).room s m ([.ref h0, .int v].toArray) below meth c H locs 0 0 (MQ below (va_Qv (fun (u : (Nat → Int32) × (Nat → Nat → Int32)) => (0 ≤ (u.1 0).toInt ∧ (u.1 0).toInt ≤ 6) ∧ True) (vx_C (dC, dI) (vx_T cI cC cZ) A (fun (u : (Nat → Int32) × (Nat → Nat → Int32)) => [(h0, .inr (0, [.ref ait, .int (u.1 0)])), (ait, .inl (cI, 6, .inl (u.2 0)))])) A) ([.ref h0, .int v].toArray) s 0 0 A) (F0 m 27 ls []) := by
      intro g27_0_1 w27_1 b_g27_0_1 H locs ls hl hP hD hS
      exact vx_vret (u := ((fun k => ([g27_0_1] : List Int32).getD k 0), (fun k => ([w27_1] : List (Nat → Int32)).getD k (fun _ => 0)))) hx hb hr hlocks hK hP hD hS [0, 1] rfl (by decide) ⟨(show 0 ≤ g27_0_1.toInt ∧ g27_0_1.toInt ≤ 6 from ⟨by omega, by omega⟩), trivial⟩ dX1_add_27
    refine lv_if_ne (tgt := 27) hx hb dX1_add_4 (by decide) (fun _ => ?_) (fun c0 => absurd c0 (by decide))
    exact J27 asz anf ⟨by omega, by omega⟩ _ _ _ (lv_sub hl [] rfl) (hP.sub [0, 1] rfl) (hD.sub [0, 1] (by decide) rfl) hS
  · subst er2
    have kr20 : asz.toInt < 6 := kr20
    have J27 : ∀ (g27_0_1 : Int32) (w27_1 : Nat → Int32), (0 ≤ g27_0_1.toInt ∧ g27_0_1.toInt ≤ 6) → ∀ (H : Heap) (locs : List Loc) (ls : Array Slot), lv_has ls 2 [] → va_P (dC, dI) vwCl [(h0, .inr (0, [.ref ait, .int g27_0_1])), (ait, .inl (cI, 6, .inl w27_1))] H → va_D A [(h0, .inr (0, [.ref ait, .int g27_0_1])), (ait, .inl (cI, 6, .inl w27_1))] → va_S A s.heap H locs → W p l e (headSpec wsX1_add ({ frames := 1, cells := 0, slots := 0, locals := 20 })).room s m ([.ref h0, .int v].toArray) below meth c H locs 0 0 (MQ below (va_Qv (fun (u : (Nat → Int32) × (Nat → Nat → Int32)) => (0 ≤ (u.1 0).toInt ∧ (u.1 0).toInt ≤ 6) ∧ True) (vx_C (dC, dI) (vx_T cI cC cZ) A (fun (u : (Nat → Int32) × (Nat → Nat → Int32)) => [(h0, .inr (0, [.ref ait, .int (u.1 0)])), (ait, .inl (cI, 6, .inl (u.2 0)))])) A) ([.ref h0, .int v].toArray) s 0 0 A) (F0 m 27 ls []) := by
      intro g27_0_1 w27_1 b_g27_0_1 H locs ls hl hP hD hS
      exact vx_vret (u := ((fun k => ([g27_0_1] : List Int32).getD k 0), (fun k => ([w27_1] : List (Nat → Int32)).getD k (fun _ => 0)))) hx hb hr hlocks hK hP hD hS [0, 1] rfl (by decide) ⟨(show 0 ≤ g27_0_1.toInt ∧ g27_0_1.toInt ≤ 6 from ⟨by omega, by omega⟩), trivial⟩ dX1_add_27
    refine lv_if_ne (tgt := 27) hx hb dX1_add_4 (by decide) (fun c0 => absurd (by decide) c0) (fun _ => ?_)
    refine lv_aload_n hx hb dX1_add_7 rfl (lv_at hl 0 rfl) ?_
    refine va_get (D := (dC, dI)) (ci := 0) (v := .ref ait) (C := RX1) (T := TX1) (N := 2) hx hb hts iX1 hown hK hP 0 rfl rfl 0 (by decide) (hts (.fieldLink RX1 13 "NeighboursMark$Numbers" "items" "[I") (vm_at 1 rfl)) (fun _ h9 => h9) rfl dX1_add_8 ?_
    refine lv_aload_n hx hb dX1_add_11 rfl (lv_at hl 0 rfl) ?_
    refine va_get (D := (dC, dI)) (ci := 0) (v := .int asz) (C := RX1) (T := TX1) (N := 2) hx hb hts iX1 hown hK hP 0 rfl rfl 1 (by decide) (hts (.fieldLink RX1 19 "NeighboursMark$Numbers" "size" "I") (vm_at 2 rfl)) (fun _ h9 => h9) rfl dX1_add_12 ?_
    refine lv_iload_n hx hb dX1_add_15 rfl (lv_at hl 1 rfl) ?_
    refine va_iast hx hb hK hP hD hS 1 0 rfl rfl (vp_in_iff.mpr ⟨by omega, by omega⟩) dX1_add_16 (fun H locs hP hD hS => ?_)
    obtain ⟨wf4, ewf4⟩ : ∃ z : Nat → Int32, z = upd anf asz.toNatClampNeg v := ⟨_, rfl⟩
    rw [← ewf4] at hP hD
    have hP : va_P (dC, dI) vwCl [(h0, .inr (0, [.ref ait, .int asz])), (ait, .inl (cI, 6, .inl wf4))] H := hP
    have hD : va_D A [(h0, .inr (0, [.ref ait, .int asz])), (ait, .inl (cI, 6, .inl wf4))] := hD
    refine lv_aload_n hx hb dX1_add_17 rfl (lv_at hl 0 rfl) ?_
    refine lv_dup hx hb dX1_add_18 rfl ?_
    refine va_get (D := (dC, dI)) (ci := 0) (v := .int asz) (C := RX1) (T := TX1) (N := 2) hx hb hts iX1 hown hK hP 0 rfl rfl 1 (by decide) (hts (.fieldLink RX1 19 "NeighboursMark$Numbers" "size" "I") (vm_at 2 rfl)) (fun _ h9 => h9) rfl dX1_add_19 ?_
    refine lv_iconst (v := 1) hx hb dX1_add_22 (by decide) ?_
    refine lv_iadd hx hb dX1_add_23 ?_
    have f5 := vy_add (x := asz) (y := 1) rfl (show ((1 : Int32)).toInt = 1 by decide) (by omega) (by omega)
    refine va_put (D := (dC, dI)) (ci := 0) (v := .int (asz + 1)) (ty := .int) (C := RX1) (T := TX1) (N := 2) hx hb hts iX1 tyX1 tyX1_ok nmX1 hown hK hP hD hS 0 rfl rfl 1 (by decide) (hts (.fieldLink RX1 19 "NeighboursMark$Numbers" "size" "I") (vm_at 2 rfl)) (fun _ h9 => h9) rfl (tyX1_ok 1 (by decide)) rfl rfl (Nat.le_of_ble_eq_true rfl) dX1_add_24 (fun H locs hP hD hS => ?_)
    have hP : va_P (dC, dI) vwCl [(h0, .inr (0, [.ref ait, .int (asz + 1)])), (ait, .inl (cI, 6, .inl wf4))] H := hP
    have hD : va_D A [(h0, .inr (0, [.ref ait, .int (asz + 1)])), (ait, .inl (cI, 6, .inl wf4))] := hD
    exact J27 (asz + 1) wf4 ⟨by omega, by omega⟩ _ _ _ (lv_sub hl [] rfl) (hP.sub [0, 1] rfl) (hD.sub [0, 1] (by decide) rfl) hS
set_option maxHeartbeats 8000000 in
set_option maxRecDepth 100000 in
theorem a_at6 (l : Launch) (dC : Nat → ClassId) (dI : Nat → Nat → Nat) (cI cC cZ : ClassId) (sz : Nat) (h0 ait : Nat) (v asz : Int32) (anf : Nat → Int32) (b_asz : 0 ≤ asz.toInt ∧ asz.toInt ≤ 6) : Met l yX1_at wsX1_at ({ frames := 0, cells := 0, slots := 0, locals := 0 }) (va_Pc [.ref h0, .int v] (vx_B (dC, dI) (vx_T cI cC cZ) sz [(h0, .inr (0, [.ref ait, .int asz])), (ait, .inl (cI, 6, .inl anf))])) (va_Qi (fun (r : Int32) (u : (Nat → Int32) × (Nat → Nat → Int32)) => (True) ∧ True) (vx_C (dC, dI) (vx_T cI cC cZ) (va_A [(h0, .inr (0, [.ref ait, .int asz])), (ait, .inl (cI, 6, .inl anf))] sz) (fun (u : (Nat → Int32) × (Nat → Nat → Int32)) => [(h0, .inr (0, [.ref ait, .int asz])), (ait, .inl (cI, 6, .inl anf))])) (va_A [(h0, .inr (0, [.ref ait, .int asz])), (ait, .inl (cI, 6, .inl anf))] sz)) 0 0 (va_A [(h0, .inr (0, [.ref ait, .int asz])), (ait, .inl (cI, 6, .inl anf))] sz) := by
  refine Met.ofW (cc := cX1_at) (maxL := 2) (ret := (some .int)) (by decide) rfl ?_
  intro p e s m args below meth c s₁ B hml hv
  obtain ⟨rfl, hsz, hP, hK, hD0, hN⟩ := hv
  have hx := B.exec
  have hb := B.bytes
  have hr := B.returns
  have hts := atoms_spec (ws := wsX1_at) B.pre
  have hown : s.vm.findClass RX1 = some m.cls := findClass_of_methodNamed B.named
  have hlocks := B.notSynchronized
  subst hsz
  have hD := hD0.self (sz := s.heap.size)
  generalize hAe : va_A [(h0, .inr (0, [.ref ait, .int asz])), (ait, .inl (cI, 6, .inl anf))] s.heap.size = A at hD hN ⊢
  have hA : ∀ q : Nat, s.heap.size ≤ q → A q := fun q h => by rw [← hAe]; exact Or.inr h
  have hS : va_S A s.heap s.heap [] := va_S.rf
  have hl := lv_entry ([.ref h0, .int v]) (n := 2) (Nat.le_of_ble_eq_true rfl)
  rw [lg_entry_eq]
  generalize (lg_sl ([.ref h0, .int v]) ++ List.replicate (2 - (lg_sl ([.ref h0, .int v])).length) Slot.unset).toArray = ls at hl ⊢
  have hl : lv_has ls 2 [(0, .ref h0), (1, .int v)] := hl
  have iX1 : ∀ w ∈ u_ws RX1 TX1 2, w ∈ wsX1_at := fun w h => (List.mem_cons_of_mem _ (List.mem_append_right _ h))
  refine lv_iload_n hx hb dX1_at_0 rfl (lv_at hl 1 rfl) ?_
  have J22 : ∀ (s22_0 : Int32), ∀ (H : Heap) (locs : List Loc) (ls : Array Slot), lv_has ls 2 [] → va_P (dC, dI) vwCl [(h0, .inr (0, [.ref ait, .int asz])), (ait, .inl (cI, 6, .inl anf))] H → va_D A [(h0, .inr (0, [.ref ait, .int asz])), (ait, .inl (cI, 6, .inl anf))] → va_S A s.heap H locs → W p l e (headSpec wsX1_at ({ frames := 0, cells := 0, slots := 0, locals := 0 })).room s m ([.ref h0, .int v].toArray) below meth c H locs 0 0 (MQ below (va_Qi (fun (r : Int32) (u : (Nat → Int32) × (Nat → Nat → Int32)) => (True) ∧ True) (vx_C (dC, dI) (vx_T cI cC cZ) A (fun (u : (Nat → Int32) × (Nat → Nat → Int32)) => [(h0, .inr (0, [.ref ait, .int asz])), (ait, .inl (cI, 6, .inl anf))])) A) ([.ref h0, .int v].toArray) s 0 0 A) (F0 m 22 ls [.int s22_0]) := by
    intro s22_0 H locs ls hl hP hD hS
    exact vx_iret (u := ((fun k => ([] : List Int32).getD k 0), (fun k => ([] : List (Nat → Int32)).getD k (fun _ => 0)))) hx hb hr hlocks hK hP hD hS [0, 1] rfl (by decide) ⟨trivial, trivial⟩ dX1_at_22
  have J21 : ∀ (H : Heap) (locs : List Loc) (ls : Array Slot), lv_has ls 2 [] → va_P (dC, dI) vwCl [(h0, .inr (0, [.ref ait, .int asz])), (ait, .inl (cI, 6, .inl anf))] H → va_D A [(h0, .inr (0, [.ref ait, .int asz])), (ait, .inl (cI, 6, .inl anf))] → va_S A s.heap H locs → W p l e (headSpec wsX1_at ({ frames := 0, cells := 0, slots := 0, locals := 0 })).room s m ([.ref h0, .int v].toArray) below meth c H locs 0 0 (MQ below (va_Qi (fun (r : Int32) (u : (Nat → Int32) × (Nat → Nat → Int32)) => (True) ∧ True) (vx_C (dC, dI) (vx_T cI cC cZ) A (fun (u : (Nat → Int32) × (Nat → Nat → Int32)) => [(h0, .inr (0, [.ref ait, .int asz])), (ait, .inl (cI, 6, .inl anf))])) A) ([.ref h0, .int v].toArray) s 0 0 A) (F0 m 21 ls []) := by
    intro  H locs ls hl hP hD hS
    refine lv_iconst (v := (-1)) hx hb dX1_at_21 (by decide) ?_
    exact J22 ((-1)) _ _ _ (lv_sub hl [] rfl) (hP.sub [0, 1] rfl) (hD.sub [0, 1] (by decide) rfl) hS
  refine lv_if_lt (tgt := 21) hx hb dX1_at_1 (by decide) (fun c1 => ?_) (fun c1 => ?_)
  · have c1 : v.toInt < 0 := vy_lt c1
    exact J21 _ _ _ (lv_sub hl [] rfl) (hP.sub [0, 1] rfl) (hD.sub [0, 1] (by decide) rfl) hS
  · have c1 : v.toInt ≥ 0 := vy_nlt c1
    refine lv_iload_n hx hb dX1_at_4 rfl (lv_at hl 1 rfl) ?_
    refine lv_aload_n hx hb dX1_at_5 rfl (lv_at hl 0 rfl) ?_
    refine va_get (D := (dC, dI)) (ci := 0) (v := .int asz) (C := RX1) (T := TX1) (N := 2) hx hb hts iX1 hown hK hP 0 rfl rfl 1 (by decide) (hts (.fieldLink RX1 19 "NeighboursMark$Numbers" "size" "I") (vm_at 1 rfl)) (fun _ h9 => h9) rfl dX1_at_6 ?_
    refine lv_icmp_ge (tgt := 21) hx hb dX1_at_9 (by decide) (fun c2 => ?_) (fun c2 => ?_)
    · have c2 : v.toInt ≥ asz.toInt := vy_le c2
      exact J21 _ _ _ (lv_sub hl [] rfl) (hP.sub [0, 1] rfl) (hD.sub [0, 1] (by decide) rfl) hS
    · have c2 : v.toInt < asz.toInt := vy_nle c2
      refine lv_aload_n hx hb dX1_at_12 rfl (lv_at hl 0 rfl) ?_
      refine va_get (D := (dC, dI)) (ci := 0) (v := .ref ait) (C := RX1) (T := TX1) (N := 2) hx hb hts iX1 hown hK hP 0 rfl rfl 0 (by decide) (hts (.fieldLink RX1 13 "NeighboursMark$Numbers" "items" "[I") (vm_at 2 rfl)) (fun _ h9 => h9) rfl dX1_at_13 ?_
      refine lv_iload_n hx hb dX1_at_16 rfl (lv_at hl 1 rfl) ?_
      refine va_iald hx hb hK hP 1 0 rfl rfl (vp_in_iff.mpr ⟨by omega, by omega⟩) dX1_at_17 ?_
      refine lv_topi (fun x3 _ => ?_)
      refine lv_goto (tgt := 22) hx hb dX1_at_18 (by decide) ?_
      exact J22 x3 _ _ _ (lv_sub hl [] rfl) (hP.sub [0, 1] rfl) (hD.sub [0, 1] (by decide) rfl) hS
set_option maxHeartbeats 8000000 in
set_option maxRecDepth 100000 in
theorem a_clear6 (l : Launch) (dC : Nat → ClassId) (dI : Nat → Nat → Nat) (cI cC cZ : ClassId) (sz : Nat) (h0 ait : Nat) (asz : Int32) (anf : Nat → Int32) (b_asz : 0 ≤ asz.toInt ∧ asz.toInt ≤ 6) : Met l yX1_clear wsX1_clear ({ frames := 0, cells := 0, slots := 0, locals := 0 }) (va_Pc [.ref h0] (vx_B (dC, dI) (vx_T cI cC cZ) sz [(h0, .inr (0, [.ref ait, .int asz])), (ait, .inl (cI, 6, .inl anf))])) (va_Qv (fun (u : (Nat → Int32) × (Nat → Nat → Int32)) => True) (vx_C (dC, dI) (vx_T cI cC cZ) (va_A [(h0, .inr (0, [.ref ait, .int asz])), (ait, .inl (cI, 6, .inl anf))] sz) (fun (u : (Nat → Int32) × (Nat → Nat → Int32)) => [(h0, .inr (0, [.ref ait, .int 0])), (ait, .inl (cI, 6, .inl anf))])) (va_A [(h0, .inr (0, [.ref ait, .int asz])), (ait, .inl (cI, 6, .inl anf))] sz)) 0 0 (va_A [(h0, .inr (0, [.ref ait, .int asz])), (ait, .inl (cI, 6, .inl anf))] sz) := by
  refine Met.ofW (cc := cX1_clear) (maxL := 1) (ret := none) (by decide) rfl ?_
  intro p e s m args below meth c s₁ B hml hv
  obtain ⟨rfl, hsz, hP, hK, hD0, hN⟩ := hv
  have hx := B.exec
  have hb := B.bytes
  have hr := B.returns
  have hts := atoms_spec (ws := wsX1_clear) B.pre
  have hown : s.vm.findClass RX1 = some m.cls := findClass_of_methodNamed B.named
  have hlocks := B.notSynchronized
  subst hsz
  have hD := hD0.self (sz := s.heap.size)
  generalize hAe : va_A [(h0, .inr (0, [.ref ait, .int asz])), (ait, .inl (cI, 6, .inl anf))] s.heap.size = A at hD hN ⊢
  have hA : ∀ q : Nat, s.heap.size ≤ q → A q := fun q h => by rw [← hAe]; exact Or.inr h
  have hS : va_S A s.heap s.heap [] := va_S.rf
  have hl := lv_entry ([.ref h0]) (n := 1) (Nat.le_of_ble_eq_true rfl)
  rw [lg_entry_eq]
  generalize (lg_sl ([.ref h0]) ++ List.replicate (1 - (lg_sl ([.ref h0])).length) Slot.unset).toArray = ls at hl ⊢
  have hl : lv_has ls 1 [(0, .ref h0)] := hl
  have iX1 : ∀ w ∈ u_ws RX1 TX1 2, w ∈ wsX1_clear := fun w h => (List.mem_cons_of_mem _ (List.mem_append_right _ h))
  refine lv_aload_n hx hb dX1_clear_0 rfl (lv_at hl 0 rfl) ?_
  refine lv_iconst (v := 0) hx hb dX1_clear_1 (by decide) ?_
  refine va_put (D := (dC, dI)) (ci := 0) (v := .int 0) (ty := .int) (C := RX1) (T := TX1) (N := 2) hx hb hts iX1 tyX1 tyX1_ok nmX1 hown hK hP hD hS 0 rfl rfl 1 (by decide) (hts (.fieldLink RX1 19 "NeighboursMark$Numbers" "size" "I") (vm_at 1 rfl)) (fun _ h9 => h9) rfl (tyX1_ok 1 (by decide)) rfl rfl (Nat.le_of_ble_eq_true rfl) dX1_clear_2 (fun H locs hP hD hS => ?_)
  have hP : va_P (dC, dI) vwCl [(h0, .inr (0, [.ref ait, .int 0])), (ait, .inl (cI, 6, .inl anf))] H := hP
  have hD : va_D A [(h0, .inr (0, [.ref ait, .int 0])), (ait, .inl (cI, 6, .inl anf))] := hD
  exact vx_vret (u := ((fun k => ([] : List Int32).getD k 0), (fun k => ([] : List (Nat → Int32)).getD k (fun _ => 0)))) hx hb hr hlocks hK hP hD hS [0, 1] rfl (by decide) trivial dX1_clear_5
set_option maxHeartbeats 8000000 in
set_option maxRecDepth 100000 in
theorem a_ncopy6 (l : Launch) (dC : Nat → ClassId) (dI : Nat → Nat → Nat) (cI cC cZ : ClassId) (sz : Nat) (h0 h1 ait bit : Nat) (asz bsz : Int32) (anf bnf : Nat → Int32) (b_asz : 0 ≤ asz.toInt ∧ asz.toInt ≤ 6) (b_bsz : 0 ≤ bsz.toInt ∧ bsz.toInt ≤ 6) : Met l yX1_copyFrom wsX1_copyFrom ({ frames := 1, cells := 0, slots := 0, locals := 40 }) (va_Pc [.ref h0, .ref h1] (vx_B (dC, dI) (vx_T cI cC cZ) sz [(h0, .inr (0, [.ref ait, .int asz])), (ait, .inl (cI, 6, .inl anf)), (h1, .inr (0, [.ref bit, .int bsz])), (bit, .inl (cI, 6, .inl bnf))])) (va_Qv (fun (u : (Nat → Int32) × (Nat → Nat → Int32)) => (0 ≤ (u.1 0).toInt ∧ (u.1 0).toInt ≤ 6) ∧ True) (vx_C (dC, dI) (vx_T cI cC cZ) (va_A [(h0, .inr (0, [.ref ait, .int asz])), (ait, .inl (cI, 6, .inl anf)), (h1, .inr (0, [.ref bit, .int bsz])), (bit, .inl (cI, 6, .inl bnf))] sz) (fun (u : (Nat → Int32) × (Nat → Nat → Int32)) => [(h0, .inr (0, [.ref ait, .int (u.1 0)])), (ait, .inl (cI, 6, .inl (u.2 0))), (h1, .inr (0, [.ref bit, .int bsz])), (bit, .inl (cI, 6, .inl bnf))])) (va_A [(h0, .inr (0, [.ref ait, .int asz])), (ait, .inl (cI, 6, .inl anf)), (h1, .inr (0, [.ref bit, .int bsz])), (bit, .inl (cI, 6, .inl bnf))] sz)) 0 0 (va_A [(h0, .inr (0, [.ref ait, .int asz])), (ait, .inl (cI, 6, .inl anf)), (h1, .inr (0, [.ref bit, .int bsz])), (bit, .inl (cI, 6, .inl bnf))] sz) := by
  refine Met.ofW (cc := cX1_copyFrom) (maxL := 2) (ret := none) (by decide) rfl ?_
  intro p e s m args below meth c s₁ B hml hv
  obtain ⟨rfl, hsz, hP, hK, hD0, hN⟩ := hv
  have hx := B.exec
  have hb := B.bytes
  have hr := B.returns
  have hts := atoms_spec (ws := wsX1_copyFrom) B.pre
  have hown : s.vm.findClass RX1 = some m.cls := findClass_of_methodNamed B.named
  have hlocks := B.notSynchronized
  subst hsz
  have hD := hD0.self (sz := s.heap.size)
  generalize hAe : va_A [(h0, .inr (0, [.ref ait, .int asz])), (ait, .inl (cI, 6, .inl anf)), (h1, .inr (0, [.ref bit, .int bsz])), (bit, .inl (cI, 6, .inl bnf))] s.heap.size = A at hD hN ⊢
  have hA : ∀ q : Nat, s.heap.size ≤ q → A q := fun q h => by rw [← hAe]; exact Or.inr h
  have hS : va_S A s.heap s.heap [] := va_S.rf
  have hl := lv_entry ([.ref h0, .ref h1]) (n := 2) (Nat.le_of_ble_eq_true rfl)
  rw [lg_entry_eq]
  generalize (lg_sl ([.ref h0, .ref h1]) ++ List.replicate (2 - (lg_sl ([.ref h0, .ref h1])).length) Slot.unset).toArray = ls at hl ⊢
  have hl : lv_has ls 2 [(0, .ref h0), (1, .ref h1)] := hl
  have iX1 : ∀ w ∈ u_ws RX1 TX1 2, w ∈ wsX1_copyFrom := fun w h => (List.mem_cons_of_mem _ (List.mem_append_right _ h))
  refine lv_aload_n hx hb dX1_copyFrom_0 rfl (lv_at hl 0 rfl) ?_
  refine lv_aload_n hx hb dX1_copyFrom_1 rfl (lv_at hl 1 rfl) ?_
  refine va_get (D := (dC, dI)) (ci := 0) (v := .int bsz) (C := RX1) (T := TX1) (N := 2) hx hb hts iX1 hown hK hP 2 rfl rfl 1 (by decide) (hts (.fieldLink RX1 19 "NeighboursMark$Numbers" "size" "I") (vm_at 1 rfl)) (fun _ h9 => h9) rfl dX1_copyFrom_2 ?_
  refine lv_aload_n hx hb dX1_copyFrom_5 rfl (lv_at hl 0 rfl) ?_
  refine va_get (D := (dC, dI)) (ci := 0) (v := .ref ait) (C := RX1) (T := TX1) (N := 2) hx hb hts iX1 hown hK hP 0 rfl rfl 0 (by decide) (hts (.fieldLink RX1 13 "NeighboursMark$Numbers" "items" "[I") (vm_at 2 rfl)) (fun _ h9 => h9) rfl dX1_copyFrom_6 ?_
  refine va_alen hx hb hK hP 1 0 rfl rfl (v := 6) rfl dX1_copyFrom_9 ?_
  refine va_mmin hx hb (by rw [hml]; exact hl.1.symm) hown (hts (.methodLink RX1 27 Lib.Math.min.name) (vm_at 3 rfl)) (hts (.static Lib.Math.min.name) (vm_at 4 rfl)) (hts (.initialized "java/lang/Math") (vm_at 5 rfl)) (hts (.code Lib.Math.min.name Lib.Math.min.code 2 (some .int)) (vm_at 6 rfl)) (Nat.le_of_ble_eq_true rfl) (Nat.le_of_ble_eq_true rfl) (Nat.le_of_ble_eq_true rfl) (Nat.le_of_ble_eq_true rfl) dX1_copyFrom_10 ?_
  refine lv_topi (fun x1 ex1 => ?_)
  have fx1 := vy_min ex1 rfl (show ((6 : Int32)).toInt = 6 by decide)
  refine va_put (D := (dC, dI)) (ci := 0) (v := .int x1) (ty := .int) (C := RX1) (T := TX1) (N := 2) hx hb hts iX1 tyX1 tyX1_ok nmX1 hown hK hP hD hS 0 rfl rfl 1 (by decide) (hts (.fieldLink RX1 19 "NeighboursMark$Numbers" "size" "I") (vm_at 1 rfl)) (fun _ h9 => h9) rfl (tyX1_ok 1 (by decide)) rfl rfl (Nat.le_of_ble_eq_true rfl) dX1_copyFrom_13 (fun H locs hP hD hS => ?_)
  have hP : va_P (dC, dI) vwCl [(h0, .inr (0, [.ref ait, .int x1])), (ait, .inl (cI, 6, .inl anf)), (h1, .inr (0, [.ref bit, .int bsz])), (bit, .inl (cI, 6, .inl bnf))] H := hP
  have hD : va_D A [(h0, .inr (0, [.ref ait, .int x1])), (ait, .inl (cI, 6, .inl anf)), (h1, .inr (0, [.ref bit, .int bsz])), (bit, .inl (cI, 6, .inl bnf))] := hD
  refine lv_aload_n hx hb dX1_copyFrom_16 rfl (lv_at hl 1 rfl) ?_
  refine va_get (D := (dC, dI)) (ci := 0) (v := .ref bit) (C := RX1) (T := TX1) (N := 2) hx hb hts iX1 hown hK hP 2 rfl rfl 0 (by decide) (hts (.fieldLink RX1 13 "NeighboursMark$Numbers" "items" "[I") (vm_at 2 rfl)) (fun _ h9 => h9) rfl dX1_copyFrom_17 ?_
  refine lv_iconst (v := 0) hx hb dX1_copyFrom_20 (by decide) ?_
  refine lv_aload_n hx hb dX1_copyFrom_21 rfl (lv_at hl 0 rfl) ?_
  refine va_get (D := (dC, dI)) (ci := 0) (v := .ref ait) (C := RX1) (T := TX1) (N := 2) hx hb hts iX1 hown hK hP 0 rfl rfl 0 (by decide) (hts (.fieldLink RX1 13 "NeighboursMark$Numbers" "items" "[I") (vm_at 2 rfl)) (fun _ h9 => h9) rfl dX1_copyFrom_22 ?_
  refine lv_iconst (v := 0) hx hb dX1_copyFrom_25 (by decide) ?_
  refine lv_aload_n hx hb dX1_copyFrom_26 rfl (lv_at hl 0 rfl) ?_
  refine va_get (D := (dC, dI)) (ci := 0) (v := .int x1) (C := RX1) (T := TX1) (N := 2) hx hb hts iX1 hown hK hP 0 rfl rfl 1 (by decide) (hts (.fieldLink RX1 19 "NeighboursMark$Numbers" "size" "I") (vm_at 1 rfl)) (fun _ h9 => h9) rfl dX1_copyFrom_27 ?_
  refine va_copyi hx hb (by rw [hml]; exact hl.1.symm) hown (hts (.methodLink RX1 30 arraycopyName) (vm_at 7 rfl)) (hts (.native arraycopyName) (vm_at 8 rfl)) (hts (.static arraycopyName) (vm_at 9 rfl)) (hts (.initialized "java/lang/System") (vm_at 10 rfl)) hK hP hD hS 3 1 0 0 rfl rfl rfl rfl rfl (by decide) (by decide) (vy_nn (by omega)) (vy_cl (by omega) (by omega)) (vy_cl (by omega) (by omega)) (fun _ _ => rfl) (Nat.le_of_ble_eq_true rfl) (Nat.le_of_ble_eq_true rfl) dX1_copyFrom_30 (fun H locs hP hD hS => ?_)
  obtain ⟨wf2, ewf2⟩ : ∃ z : Nat → Int32, z = va_cpy bnf anf (0 : Int32).toNatClampNeg (0 : Int32).toNatClampNeg x1.toNatClampNeg := ⟨_, rfl⟩
  rw [← ewf2] at hP hD
  have hP : va_P (dC, dI) vwCl [(h0, .inr (0, [.ref ait, .int x1])), (ait, .inl (cI, 6, .inl wf2)), (h1, .inr (0, [.ref bit, .int bsz])), (bit, .inl (cI, 6, .inl bnf))] H := hP
  have hD : va_D A [(h0, .inr (0, [.ref ait, .int x1])), (ait, .inl (cI, 6, .inl wf2)), (h1, .inr (0, [.ref bit, .int bsz])), (bit, .inl (cI, 6, .inl bnf))] := hD
  exact vx_vret (u := ((fun k => ([x1] : List Int32).getD k 0), (fun k => ([wf2] : List (Nat → Int32)).getD k (fun _ => 0)))) hx hb hr hlocks hK hP hD hS [0, 1, 2, 3] rfl (by decide) ⟨(show 0 ≤ x1.toInt ∧ x1.toInt ≤ 6 from ⟨by omega, by omega⟩), trivial⟩ dX1_copyFrom_33
