set_option maxHeartbeats 8000000 in
set_option maxRecDepth 100000 in
theorem a_behind (l : Launch) (dC : Nat → ClassId) (dI : Nat → Nat → Nat) (cI cC cZ : ClassId) (sz : Nat) (v : Int32) : Met l yX2_lettersBehind wsX2_lettersBehind ({ frames := 0, cells := 0, slots := 0, locals := 0 }) (va_Pc [.int v] (vx_B (dC, dI) (vx_T cI cC cZ) sz [])) (va_Qi (fun (r : Int32) (u : (Nat → Int32) × (Nat → Nat → Int32)) => (-1 ≤ r.toInt ∧ r.toInt ≤ 3) ∧ True) (vx_C (dC, dI) (vx_T cI cC cZ) (va_A [] sz) (fun (u : (Nat → Int32) × (Nat → Nat → Int32)) => [])) (va_A [] sz)) 0 0 (va_A [] sz) := by
  refine Met.ofW (cc := cX2_lettersBehind) (maxL := 1) (ret := (some .int)) (by decide) rfl ?_
  intro p e s m args below meth c s₁ B hml hv
  obtain ⟨rfl, hsz, hP, hK, hD0, hN⟩ := hv
  have hx := B.exec
  have hb := B.bytes
  have hr := B.returns
  have hts := atoms_spec (ws := wsX2_lettersBehind) B.pre
  have hown : s.vm.findClass RX2 = some m.cls := findClass_of_methodNamed B.named
  have hlocks := B.notSynchronized
  subst hsz
  have hD := hD0.self (sz := s.heap.size)
  generalize hAe : va_A [] s.heap.size = A at hD hN ⊢
  have hA : ∀ q : Nat, s.heap.size ≤ q → A q := fun q h => by rw [← hAe]; exact Or.inr h
  have hS : va_S A s.heap s.heap [] := va_S.rf
  have hl := lv_entry ([.int v]) (n := 1) (Nat.le_of_ble_eq_true rfl)
  rw [lg_entry_eq]
  generalize (lg_sl ([.int v]) ++ List.replicate (1 - (lg_sl ([.int v])).length) Slot.unset).toArray = ls at hl ⊢
  have hl : lv_has ls 1 [(0, .int v)] := hl
  refine lv_iload_n hx hb dX2_lettersBehind_0 rfl (lv_at hl 0 rfl) ?_
  by_cases c1 : v = 104
  · have c1t : v.toInt = 104 := by rw [c1]; rfl
    refine lv_tableIn (off := 87) (tgt := 88) hx hb dX2_lettersBehind_1 (by omega) (by omega) (by rw [c1t]; rfl) (by decide) ?_
    refine lv_iconst (v := 1) hx hb dX2_lettersBehind_88 (by decide) ?_
    exact vx_iret (u := ((fun k => ([] : List Int32).getD k 0), (fun k => ([] : List (Nat → Int32)).getD k (fun _ => 0)))) hx hb hr hlocks hK hP hD hS [] rfl (by decide) ⟨(by decide), trivial⟩ dX2_lettersBehind_89
  have c1 : v.toInt ≠ 104 := vy_ne c1
  by_cases c2 : v = 105
  · have c2t : v.toInt = 105 := by rw [c2]; rfl
    refine lv_tableIn (off := 91) (tgt := 92) hx hb dX2_lettersBehind_1 (by omega) (by omega) (by rw [c2t]; rfl) (by decide) ?_
    refine lv_iconst (v := (-1)) hx hb dX2_lettersBehind_92 (by decide) ?_
    exact vx_iret (u := ((fun k => ([] : List Int32).getD k 0), (fun k => ([] : List (Nat → Int32)).getD k (fun _ => 0)))) hx hb hr hlocks hK hP hD hS [] rfl (by decide) ⟨(by decide), trivial⟩ dX2_lettersBehind_93
  have c2 : v.toInt ≠ 105 := vy_ne c2
  by_cases c3 : v = 106
  · have c3t : v.toInt = 106 := by rw [c3]; rfl
    refine lv_tableIn (off := 91) (tgt := 92) hx hb dX2_lettersBehind_1 (by omega) (by omega) (by rw [c3t]; rfl) (by decide) ?_
    refine lv_iconst (v := (-1)) hx hb dX2_lettersBehind_92 (by decide) ?_
    exact vx_iret (u := ((fun k => ([] : List Int32).getD k 0), (fun k => ([] : List (Nat → Int32)).getD k (fun _ => 0)))) hx hb hr hlocks hK hP hD hS [] rfl (by decide) ⟨(by decide), trivial⟩ dX2_lettersBehind_93
  have c3 : v.toInt ≠ 106 := vy_ne c3
  by_cases c4 : v = 107
  · have c4t : v.toInt = 107 := by rw [c4]; rfl
    refine lv_tableIn (off := 91) (tgt := 92) hx hb dX2_lettersBehind_1 (by omega) (by omega) (by rw [c4t]; rfl) (by decide) ?_
    refine lv_iconst (v := (-1)) hx hb dX2_lettersBehind_92 (by decide) ?_
    exact vx_iret (u := ((fun k => ([] : List Int32).getD k 0), (fun k => ([] : List (Nat → Int32)).getD k (fun _ => 0)))) hx hb hr hlocks hK hP hD hS [] rfl (by decide) ⟨(by decide), trivial⟩ dX2_lettersBehind_93
  have c4 : v.toInt ≠ 107 := vy_ne c4
  by_cases c5 : v = 108
  · have c5t : v.toInt = 108 := by rw [c5]; rfl
    refine lv_tableIn (off := 87) (tgt := 88) hx hb dX2_lettersBehind_1 (by omega) (by omega) (by rw [c5t]; rfl) (by decide) ?_
    refine lv_iconst (v := 1) hx hb dX2_lettersBehind_88 (by decide) ?_
    exact vx_iret (u := ((fun k => ([] : List Int32).getD k 0), (fun k => ([] : List (Nat → Int32)).getD k (fun _ => 0)))) hx hb hr hlocks hK hP hD hS [] rfl (by decide) ⟨(by decide), trivial⟩ dX2_lettersBehind_89
  have c5 : v.toInt ≠ 108 := vy_ne c5
  by_cases c6 : v = 109
  · have c6t : v.toInt = 109 := by rw [c6]; rfl
    refine lv_tableIn (off := 87) (tgt := 88) hx hb dX2_lettersBehind_1 (by omega) (by omega) (by rw [c6t]; rfl) (by decide) ?_
    refine lv_iconst (v := 1) hx hb dX2_lettersBehind_88 (by decide) ?_
    exact vx_iret (u := ((fun k => ([] : List Int32).getD k 0), (fun k => ([] : List (Nat → Int32)).getD k (fun _ => 0)))) hx hb hr hlocks hK hP hD hS [] rfl (by decide) ⟨(by decide), trivial⟩ dX2_lettersBehind_89
  have c6 : v.toInt ≠ 109 := vy_ne c6
  by_cases c7 : v = 110
  · have c7t : v.toInt = 110 := by rw [c7]; rfl
    refine lv_tableIn (off := 91) (tgt := 92) hx hb dX2_lettersBehind_1 (by omega) (by omega) (by rw [c7t]; rfl) (by decide) ?_
    refine lv_iconst (v := (-1)) hx hb dX2_lettersBehind_92 (by decide) ?_
    exact vx_iret (u := ((fun k => ([] : List Int32).getD k 0), (fun k => ([] : List (Nat → Int32)).getD k (fun _ => 0)))) hx hb hr hlocks hK hP hD hS [] rfl (by decide) ⟨(by decide), trivial⟩ dX2_lettersBehind_93
  have c7 : v.toInt ≠ 110 := vy_ne c7
  by_cases c8 : v = 111
  · have c8t : v.toInt = 111 := by rw [c8]; rfl
    refine lv_tableIn (off := 91) (tgt := 92) hx hb dX2_lettersBehind_1 (by omega) (by omega) (by rw [c8t]; rfl) (by decide) ?_
    refine lv_iconst (v := (-1)) hx hb dX2_lettersBehind_92 (by decide) ?_
    exact vx_iret (u := ((fun k => ([] : List Int32).getD k 0), (fun k => ([] : List (Nat → Int32)).getD k (fun _ => 0)))) hx hb hr hlocks hK hP hD hS [] rfl (by decide) ⟨(by decide), trivial⟩ dX2_lettersBehind_93
  have c8 : v.toInt ≠ 111 := vy_ne c8
  by_cases c9 : v = 112
  · have c9t : v.toInt = 112 := by rw [c9]; rfl
    refine lv_tableIn (off := 83) (tgt := 84) hx hb dX2_lettersBehind_1 (by omega) (by omega) (by rw [c9t]; rfl) (by decide) ?_
    refine lv_iconst (v := 3) hx hb dX2_lettersBehind_84 (by decide) ?_
    exact vx_iret (u := ((fun k => ([] : List Int32).getD k 0), (fun k => ([] : List (Nat → Int32)).getD k (fun _ => 0)))) hx hb hr hlocks hK hP hD hS [] rfl (by decide) ⟨(by decide), trivial⟩ dX2_lettersBehind_85
  have c9 : v.toInt ≠ 112 := vy_ne c9
  by_cases c10 : v = 113
  · have c10t : v.toInt = 113 := by rw [c10]; rfl
    refine lv_tableIn (off := 91) (tgt := 92) hx hb dX2_lettersBehind_1 (by omega) (by omega) (by rw [c10t]; rfl) (by decide) ?_
    refine lv_iconst (v := (-1)) hx hb dX2_lettersBehind_92 (by decide) ?_
    exact vx_iret (u := ((fun k => ([] : List Int32).getD k 0), (fun k => ([] : List (Nat → Int32)).getD k (fun _ => 0)))) hx hb hr hlocks hK hP hD hS [] rfl (by decide) ⟨(by decide), trivial⟩ dX2_lettersBehind_93
  have c10 : v.toInt ≠ 113 := vy_ne c10
  by_cases c11 : v = 114
  · have c11t : v.toInt = 114 := by rw [c11]; rfl
    refine lv_tableIn (off := 89) (tgt := 90) hx hb dX2_lettersBehind_1 (by omega) (by omega) (by rw [c11t]; rfl) (by decide) ?_
    refine lv_iconst (v := 0) hx hb dX2_lettersBehind_90 (by decide) ?_
    exact vx_iret (u := ((fun k => ([] : List Int32).getD k 0), (fun k => ([] : List (Nat → Int32)).getD k (fun _ => 0)))) hx hb hr hlocks hK hP hD hS [] rfl (by decide) ⟨(by decide), trivial⟩ dX2_lettersBehind_91
  have c11 : v.toInt ≠ 114 := vy_ne c11
  by_cases c12 : v = 115
  · have c12t : v.toInt = 115 := by rw [c12]; rfl
    refine lv_tableIn (off := 91) (tgt := 92) hx hb dX2_lettersBehind_1 (by omega) (by omega) (by rw [c12t]; rfl) (by decide) ?_
    refine lv_iconst (v := (-1)) hx hb dX2_lettersBehind_92 (by decide) ?_
    exact vx_iret (u := ((fun k => ([] : List Int32).getD k 0), (fun k => ([] : List (Nat → Int32)).getD k (fun _ => 0)))) hx hb hr hlocks hK hP hD hS [] rfl (by decide) ⟨(by decide), trivial⟩ dX2_lettersBehind_93
  have c12 : v.toInt ≠ 115 := vy_ne c12
  by_cases c13 : v = 116
  · have c13t : v.toInt = 116 := by rw [c13]; rfl
    refine lv_tableIn (off := 91) (tgt := 92) hx hb dX2_lettersBehind_1 (by omega) (by omega) (by rw [c13t]; rfl) (by decide) ?_
    refine lv_iconst (v := (-1)) hx hb dX2_lettersBehind_92 (by decide) ?_
    exact vx_iret (u := ((fun k => ([] : List Int32).getD k 0), (fun k => ([] : List (Nat → Int32)).getD k (fun _ => 0)))) hx hb hr hlocks hK hP hD hS [] rfl (by decide) ⟨(by decide), trivial⟩ dX2_lettersBehind_93
  have c13 : v.toInt ≠ 116 := vy_ne c13
  by_cases c14 : v = 117
  · have c14t : v.toInt = 117 := by rw [c14]; rfl
    refine lv_tableIn (off := 91) (tgt := 92) hx hb dX2_lettersBehind_1 (by omega) (by omega) (by rw [c14t]; rfl) (by decide) ?_
    refine lv_iconst (v := (-1)) hx hb dX2_lettersBehind_92 (by decide) ?_
    exact vx_iret (u := ((fun k => ([] : List Int32).getD k 0), (fun k => ([] : List (Nat → Int32)).getD k (fun _ => 0)))) hx hb hr hlocks hK hP hD hS [] rfl (by decide) ⟨(by decide), trivial⟩ dX2_lettersBehind_93
  have c14 : v.toInt ≠ 117 := vy_ne c14
  by_cases c15 : v = 118
  · have c15t : v.toInt = 118 := by rw [c15]; rfl
    refine lv_tableIn (off := 91) (tgt := 92) hx hb dX2_lettersBehind_1 (by omega) (by omega) (by rw [c15t]; rfl) (by decide) ?_
    refine lv_iconst (v := (-1)) hx hb dX2_lettersBehind_92 (by decide) ?_
    exact vx_iret (u := ((fun k => ([] : List Int32).getD k 0), (fun k => ([] : List (Nat → Int32)).getD k (fun _ => 0)))) hx hb hr hlocks hK hP hD hS [] rfl (by decide) ⟨(by decide), trivial⟩ dX2_lettersBehind_93
  have c15 : v.toInt ≠ 118 := vy_ne c15
  by_cases c16 : v = 119
  · have c16t : v.toInt = 119 := by rw [c16]; rfl
    refine lv_tableIn (off := 89) (tgt := 90) hx hb dX2_lettersBehind_1 (by omega) (by omega) (by rw [c16t]; rfl) (by decide) ?_
    refine lv_iconst (v := 0) hx hb dX2_lettersBehind_90 (by decide) ?_
    exact vx_iret (u := ((fun k => ([] : List Int32).getD k 0), (fun k => ([] : List (Nat → Int32)).getD k (fun _ => 0)))) hx hb hr hlocks hK hP hD hS [] rfl (by decide) ⟨(by decide), trivial⟩ dX2_lettersBehind_91
  have c16 : v.toInt ≠ 119 := vy_ne c16
  by_cases c17 : v = 120
  · have c17t : v.toInt = 120 := by rw [c17]; rfl
    refine lv_tableIn (off := 85) (tgt := 86) hx hb dX2_lettersBehind_1 (by omega) (by omega) (by rw [c17t]; rfl) (by decide) ?_
    refine lv_iconst (v := 2) hx hb dX2_lettersBehind_86 (by decide) ?_
    exact vx_iret (u := ((fun k => ([] : List Int32).getD k 0), (fun k => ([] : List (Nat → Int32)).getD k (fun _ => 0)))) hx hb hr hlocks hK hP hD hS [] rfl (by decide) ⟨(by decide), trivial⟩ dX2_lettersBehind_87
  have c17 : v.toInt ≠ 120 := vy_ne c17
  refine lv_tableOut (tgt := 92) hx hb dX2_lettersBehind_1 (by omega) (by decide) ?_
  refine lv_iconst (v := (-1)) hx hb dX2_lettersBehind_92 (by decide) ?_
  exact vx_iret (u := ((fun k => ([] : List Int32).getD k 0), (fun k => ([] : List (Nat → Int32)).getD k (fun _ => 0)))) hx hb hr hlocks hK hP hD hS [] rfl (by decide) ⟨(by decide), trivial⟩ dX2_lettersBehind_93
set_option maxHeartbeats 8000000 in
set_option maxRecDepth 100000 in
theorem a_isDigit (l : Launch) (dC : Nat → ClassId) (dI : Nat → Nat → Nat) (cI cC cZ : ClassId) (sz : Nat) (v : Int32) : Met l yX2_isDigit wsX2_isDigit ({ frames := 0, cells := 0, slots := 0, locals := 0 }) (va_Pc [.int v] (vx_B (dC, dI) (vx_T cI cC cZ) sz [])) (va_Qi (fun (r : Int32) (u : (Nat → Int32) × (Nat → Nat → Int32)) => (0 ≤ r.toInt ∧ r.toInt ≤ 1) ∧ True) (vx_C (dC, dI) (vx_T cI cC cZ) (va_A [] sz) (fun (u : (Nat → Int32) × (Nat → Nat → Int32)) => [])) (va_A [] sz)) 0 0 (va_A [] sz) := by
  refine Met.ofW (cc := cX2_isDigit) (maxL := 1) (ret := (some .boolean)) (by decide) rfl ?_
  intro p e s m args below meth c s₁ B hml hv
  obtain ⟨rfl, hsz, hP, hK, hD0, hN⟩ := hv
  have hx := B.exec
  have hb := B.bytes
  have hr := B.returns
  have hts := atoms_spec (ws := wsX2_isDigit) B.pre
  have hown : s.vm.findClass RX2 = some m.cls := findClass_of_methodNamed B.named
  have hlocks := B.notSynchronized
  subst hsz
  have hD := hD0.self (sz := s.heap.size)
  generalize hAe : va_A [] s.heap.size = A at hD hN ⊢
  have hA : ∀ q : Nat, s.heap.size ≤ q → A q := fun q h => by rw [← hAe]; exact Or.inr h
  have hS : va_S A s.heap s.heap [] := va_S.rf
  have hl := lv_entry ([.int v]) (n := 1) (Nat.le_of_ble_eq_true rfl)
  rw [lg_entry_eq]
  generalize (lg_sl ([.int v]) ++ List.replicate (1 - (lg_sl ([.int v])).length) Slot.unset).toArray = ls at hl ⊢
  have hl : lv_has ls 1 [(0, .int v)] := hl
  refine lv_iload_n hx hb dX2_isDigit_0 rfl (lv_at hl 0 rfl) ?_
  refine lv_bipush (v := 48) hx hb dX2_isDigit_1 (by decide) ?_
  have J16 : ∀ (H : Heap) (locs : List Loc) (ls : Array Slot), lv_has ls 1 [] → va_P (dC, dI) vwCl [] H → va_D A [] → va_S A s.heap H locs → W p l e (headSpec wsX2_isDigit ({ frames := 0, cells := 0, slots := 0, locals := 0 })).room s m ([.int v].toArray) below meth c H locs 0 0 (MQ below (va_Qi (fun (r : Int32) (u : (Nat → Int32) × (Nat → Nat → Int32)) => (0 ≤ r.toInt ∧ r.toInt ≤ 1) ∧ True) (vx_C (dC, dI) (vx_T cI cC cZ) A (fun (u : (Nat → Int32) × (Nat → Nat → Int32)) => [])) A) ([.int v].toArray) s 0 0 A) (F0 m 16 ls []) := by
    intro  H locs ls hl hP hD hS
    refine lv_iconst (v := 0) hx hb dX2_isDigit_16 (by decide) ?_
    exact vx_zret (u := ((fun k => ([] : List Int32).getD k 0), (fun k => ([] : List (Nat → Int32)).getD k (fun _ => 0)))) hx hb hr rfl hlocks hK hP hD hS [] rfl (by decide) ⟨(by decide), trivial⟩ dX2_isDigit_17
  refine lv_icmp_lt (tgt := 16) hx hb dX2_isDigit_3 (by decide) (fun c1 => ?_) (fun c1 => ?_)
  · have c1 : v.toInt < 48 := vy_lt c1
    exact J16 _ _ _ (lv_sub hl [] rfl) (hP.sub [] rfl) (hD.sub [] (by decide) rfl) hS
  · have c1 : v.toInt ≥ 48 := vy_nlt c1
    refine lv_iload_n hx hb dX2_isDigit_6 rfl (lv_at hl 0 rfl) ?_
    refine lv_bipush (v := 57) hx hb dX2_isDigit_7 (by decide) ?_
    refine lv_icmp_gt (tgt := 16) hx hb dX2_isDigit_9 (by decide) (fun c2 => ?_) (fun c2 => ?_)
    · have c2 : v.toInt > 57 := vy_lt c2
      exact J16 _ _ _ (lv_sub hl [] rfl) (hP.sub [] rfl) (hD.sub [] (by decide) rfl) hS
    · have c2 : v.toInt ≤ 57 := vy_nlt c2
      refine lv_iconst (v := 1) hx hb dX2_isDigit_12 (by decide) ?_
      refine lv_goto (tgt := 17) hx hb dX2_isDigit_13 (by decide) ?_
      exact vx_zret (u := ((fun k => ([] : List Int32).getD k 0), (fun k => ([] : List (Nat → Int32)).getD k (fun _ => 0)))) hx hb hr rfl hlocks hK hP hD hS [] rfl (by decide) ⟨(by decide), trivial⟩ dX2_isDigit_17
set_option maxHeartbeats 8000000 in
set_option maxRecDepth 100000 in
theorem a_isLaw (l : Launch) (dC : Nat → ClassId) (dI : Nat → Nat → Nat) (cI cC cZ : ClassId) (sz : Nat) (v : Int32) : Met l yX7_isLaw wsX7_isLaw ({ frames := 0, cells := 0, slots := 0, locals := 0 }) (va_Pc [.int v] (vx_B (dC, dI) (vx_T cI cC cZ) sz [])) (va_Qi (fun (r : Int32) (u : (Nat → Int32) × (Nat → Nat → Int32)) => (0 ≤ r.toInt ∧ r.toInt ≤ 1) ∧ True) (vx_C (dC, dI) (vx_T cI cC cZ) (va_A [] sz) (fun (u : (Nat → Int32) × (Nat → Nat → Int32)) => [])) (va_A [] sz)) 0 0 (va_A [] sz) := by
  refine Met.ofW (cc := cX7_isLaw) (maxL := 1) (ret := (some .boolean)) (by decide) rfl ?_
  intro p e s m args below meth c s₁ B hml hv
  obtain ⟨rfl, hsz, hP, hK, hD0, hN⟩ := hv
  have hx := B.exec
  have hb := B.bytes
  have hr := B.returns
  have hts := atoms_spec (ws := wsX7_isLaw) B.pre
  have hown : s.vm.findClass RX7 = some m.cls := findClass_of_methodNamed B.named
  have hlocks := B.notSynchronized
  subst hsz
  have hD := hD0.self (sz := s.heap.size)
  generalize hAe : va_A [] s.heap.size = A at hD hN ⊢
  have hA : ∀ q : Nat, s.heap.size ≤ q → A q := fun q h => by rw [← hAe]; exact Or.inr h
  have hS : va_S A s.heap s.heap [] := va_S.rf
  have hl := lv_entry ([.int v]) (n := 1) (Nat.le_of_ble_eq_true rfl)
  rw [lg_entry_eq]
  generalize (lg_sl ([.int v]) ++ List.replicate (1 - (lg_sl ([.int v])).length) Slot.unset).toArray = ls at hl ⊢
  have hl : lv_has ls 1 [(0, .int v)] := hl
  refine lv_iload_n hx hb dX7_isLaw_0 rfl (lv_at hl 0 rfl) ?_
  have J14 : ∀ (H : Heap) (locs : List Loc) (ls : Array Slot), lv_has ls 1 [] → va_P (dC, dI) vwCl [] H → va_D A [] → va_S A s.heap H locs → W p l e (headSpec wsX7_isLaw ({ frames := 0, cells := 0, slots := 0, locals := 0 })).room s m ([.int v].toArray) below meth c H locs 0 0 (MQ below (va_Qi (fun (r : Int32) (u : (Nat → Int32) × (Nat → Nat → Int32)) => (0 ≤ r.toInt ∧ r.toInt ≤ 1) ∧ True) (vx_C (dC, dI) (vx_T cI cC cZ) A (fun (u : (Nat → Int32) × (Nat → Nat → Int32)) => [])) A) ([.int v].toArray) s 0 0 A) (F0 m 14 ls []) := by
    intro  H locs ls hl hP hD hS
    refine lv_iconst (v := 0) hx hb dX7_isLaw_14 (by decide) ?_
    exact vx_zret (u := ((fun k => ([] : List Int32).getD k 0), (fun k => ([] : List (Nat → Int32)).getD k (fun _ => 0)))) hx hb hr rfl hlocks hK hP hD hS [] rfl (by decide) ⟨(by decide), trivial⟩ dX7_isLaw_15
  refine lv_if_lt (tgt := 14) hx hb dX7_isLaw_1 (by decide) (fun c1 => ?_) (fun c1 => ?_)
  · have c1 : v.toInt < 0 := vy_lt c1
    exact J14 _ _ _ (lv_sub hl [] rfl) (hP.sub [] rfl) (hD.sub [] (by decide) rfl) hS
  · have c1 : v.toInt ≥ 0 := vy_nlt c1
    refine lv_iload_n hx hb dX7_isLaw_4 rfl (lv_at hl 0 rfl) ?_
    refine lv_bipush (v := 6) hx hb dX7_isLaw_5 (by decide) ?_
    refine lv_icmp_gt (tgt := 14) hx hb dX7_isLaw_7 (by decide) (fun c2 => ?_) (fun c2 => ?_)
    · have c2 : v.toInt > 6 := vy_lt c2
      exact J14 _ _ _ (lv_sub hl [] rfl) (hP.sub [] rfl) (hD.sub [] (by decide) rfl) hS
    · have c2 : v.toInt ≤ 6 := vy_nlt c2
      refine lv_iconst (v := 1) hx hb dX7_isLaw_10 (by decide) ?_
      refine lv_goto (tgt := 15) hx hb dX7_isLaw_11 (by decide) ?_
      exact vx_zret (u := ((fun k => ([] : List Int32).getD k 0), (fun k => ([] : List (Nat → Int32)).getD k (fun _ => 0)))) hx hb hr rfl hlocks hK hP hD hS [] rfl (by decide) ⟨(by decide), trivial⟩ dX7_isLaw_15
set_option maxHeartbeats 8000000 in
set_option maxRecDepth 100000 in
theorem a_kindOf (l : Launch) (dC : Nat → ClassId) (dI : Nat → Nat → Nat) (cI cC cZ : ClassId) (sz : Nat) (v : Int32) : Met l yX2_kindOf wsX2_kindOf ({ frames := 0, cells := 0, slots := 0, locals := 0 }) (va_Pc [.int v] (vx_B (dC, dI) (vx_T cI cC cZ) sz [])) (va_Qi (fun (r : Int32) (u : (Nat → Int32) × (Nat → Nat → Int32)) => (-1 ≤ r.toInt ∧ r.toInt ≤ 5) ∧ True) (vx_C (dC, dI) (vx_T cI cC cZ) (va_A [] sz) (fun (u : (Nat → Int32) × (Nat → Nat → Int32)) => [])) (va_A [] sz)) 0 0 (va_A [] sz) := by
  refine Met.ofW (cc := cX2_kindOf) (maxL := 2) (ret := (some .int)) (by decide) rfl ?_
  intro p e s m args below meth c s₁ B hml hv
  obtain ⟨rfl, hsz, hP, hK, hD0, hN⟩ := hv
  have hx := B.exec
  have hb := B.bytes
  have hr := B.returns
  have hts := atoms_spec (ws := wsX2_kindOf) B.pre
  have hown : s.vm.findClass RX2 = some m.cls := findClass_of_methodNamed B.named
  have hlocks := B.notSynchronized
  subst hsz
  have hD := hD0.self (sz := s.heap.size)
  generalize hAe : va_A [] s.heap.size = A at hD hN ⊢
  have hA : ∀ q : Nat, s.heap.size ≤ q → A q := fun q h => by rw [← hAe]; exact Or.inr h
  have hS : va_S A s.heap s.heap [] := va_S.rf
  have hl := lv_entry ([.int v]) (n := 2) (Nat.le_of_ble_eq_true rfl)
  rw [lg_entry_eq]
  generalize (lg_sl ([.int v]) ++ List.replicate (2 - (lg_sl ([.int v])).length) Slot.unset).toArray = ls at hl ⊢
  have hl : lv_has ls 2 [(0, .int v)] := hl
  obtain ⟨-, -, KL, kl, hZk, hTk⟩ := id hN
  refine lv_iconst (v := 0) hx hb dX2_kindOf_0 (by decide) ?_
  have J2 : ∀ (d2 : Nat) (v2_1 : Int32), (0 ≤ v2_1.toInt ∧ v2_1.toInt ≤ 6) → (7 - v2_1.toInt < (d2 : Int)) → ∀ (H : Heap) (locs : List Loc) (ls : Array Slot), lv_has ls 2 [(0, .int v), (1, .int v2_1)] → va_P (dC, dI) vwCl [] H → va_D A [] → va_S A s.heap H locs → W p l e (headSpec wsX2_kindOf ({ frames := 0, cells := 0, slots := 0, locals := 0 })).room s m ([.int v].toArray) below meth c H locs 0 0 (MQ below (va_Qi (fun (r : Int32) (u : (Nat → Int32) × (Nat → Nat → Int32)) => (-1 ≤ r.toInt ∧ r.toInt ≤ 5) ∧ True) (vx_C (dC, dI) (vx_T cI cC cZ) A (fun (u : (Nat → Int32) × (Nat → Nat → Int32)) => [])) A) ([.int v].toArray) s 0 0 A) (F0 m 2 ls []) := by
    intro d2
    induction d2 with
    | zero => intro v2_1 b_v2_1 hd2; exfalso; omega
    | succ d2 ih2 =>
      intro v2_1 b_v2_1 hd2 H locs ls hl hP hD hS
      refine lv_iload_n hx hb dX2_kindOf_2 rfl (lv_at hl 1 rfl) ?_
      refine va_getsN hx hb hZk hS hown (va_Nw.use rfl hN.1) (fun _ h9 => h9) dX2_kindOf_3 ?_
      refine va_tlen hx hb hTk hS (v := 6) rfl dX2_kindOf_6 ?_
      refine lv_icmp_ge (tgt := 27) hx hb dX2_kindOf_7 (by decide) (fun c1 => ?_) (fun c1 => ?_)
      · have c1 : v2_1.toInt ≥ 6 := vy_le c1
        refine lv_iconst (v := (-1)) hx hb dX2_kindOf_27 (by decide) ?_
        exact vx_iret (u := ((fun k => ([] : List Int32).getD k 0), (fun k => ([] : List (Nat → Int32)).getD k (fun _ => 0)))) hx hb hr hlocks hK hP hD hS [] rfl (by decide) ⟨(by decide), trivial⟩ dX2_kindOf_28
      · have c1 : v2_1.toInt < 6 := vy_nle c1
        refine va_getsN hx hb hZk hS hown (va_Nw.use rfl hN.1) (fun _ h9 => h9) dX2_kindOf_10 ?_
        refine lv_iload_n hx hb dX2_kindOf_13 rfl (lv_at hl 1 rfl) ?_
        refine va_tc hx hb hTk hS (vp_in_iff.mpr ⟨by omega, by omega⟩) rfl dX2_kindOf_14 ?_
        refine lv_topi (fun x2 _ => ?_)
        refine lv_iload_n hx hb dX2_kindOf_15 rfl (lv_at hl 0 rfl) ?_
        refine lv_icmp_ne (tgt := 21) hx hb dX2_kindOf_16 (by decide) (fun c3 => ?_) (fun c3 => ?_)
        · have c3 : x2.toInt ≠ v.toInt := vy_ne c3
          have f4 := vy_add (x := v2_1) (y := 1) rfl (show ((1 : Int32)).toInt = 1 by decide) (by omega) (by omega)
          refine lv_iinc (v := (v2_1 + 1)) (lv' := [(1, .int (v2_1 + 1)), (0, .int v)]) hx hb dX2_kindOf_21 hl (k := 1) rfl rfl (by decide) rfl (fun ls hl => ?_)
          refine lv_goto (tgt := 2) hx hb dX2_kindOf_24 (by decide) ?_
          exact ih2 (v2_1 + 1) ⟨by omega, by omega⟩ (show 7 - (v2_1 + 1).toInt < (d2 : Int) by omega) _ _ _ (lv_sub hl [1, 0] rfl) (hP.sub [] rfl) (hD.sub [] (by decide) rfl) hS
        · have c3 : x2.toInt = v.toInt := vy_eq c3
          refine lv_iload_n hx hb dX2_kindOf_19 rfl (lv_at hl 1 rfl) ?_
          exact vx_iret (u := ((fun k => ([] : List Int32).getD k 0), (fun k => ([] : List (Nat → Int32)).getD k (fun _ => 0)))) hx hb hr hlocks hK hP hD hS [] rfl (by decide) ⟨⟨by omega, by omega⟩, trivial⟩ dX2_kindOf_20
  refine lv_istore_n (lv' := [(1, .int 0), (0, .int v)]) hx hb dX2_kindOf_1 rfl hl (by decide) rfl (fun ls hl => ?_)
  exact J2 9 (0) (by decide) (show 7 - 0 < (9 : Int) by omega) _ _ _ (lv_sub hl [1, 0] rfl) (hP.sub [] rfl) (hD.sub [] (by decide) rfl) hS
set_option maxHeartbeats 8000000 in
set_option maxRecDepth 100000 in
theorem a_digitAt (l : Launch) (dC : Nat → ClassId) (dI : Nat → Nat → Nat) (cI cC cZ : ClassId) (sz : Nat) (h0 h1 bit : Nat) (v pl bsz : Int32) (bnf : Nat → Int32) (b_bsz : 0 ≤ bsz.toInt ∧ bsz.toInt ≤ 64) : Met l yX2_digitAt wsX2_digitAt ({ frames := 1, cells := 0, slots := 0, locals := 21 }) (va_Pc [.ref h0, .int v] (vx_B (dC, dI) (vx_T cI cC cZ) sz [(h0, .inr (1, [.ref h1, .int pl])), (h1, .inr (0, [.ref bit, .int bsz])), (bit, .inl (cI, 64, .inl bnf))])) (va_Qi (fun (r : Int32) (u : (Nat → Int32) × (Nat → Nat → Int32)) => (True) ∧ True) (vx_C (dC, dI) (vx_T cI cC cZ) (va_A [(h0, .inr (1, [.ref h1, .int pl])), (h1, .inr (0, [.ref bit, .int bsz])), (bit, .inl (cI, 64, .inl bnf))] sz) (fun (u : (Nat → Int32) × (Nat → Nat → Int32)) => [(h0, .inr (1, [.ref h1, .int pl])), (h1, .inr (0, [.ref bit, .int bsz])), (bit, .inl (cI, 64, .inl bnf))])) (va_A [(h0, .inr (1, [.ref h1, .int pl])), (h1, .inr (0, [.ref bit, .int bsz])), (bit, .inl (cI, 64, .inl bnf))] sz)) 0 0 (va_A [(h0, .inr (1, [.ref h1, .int pl])), (h1, .inr (0, [.ref bit, .int bsz])), (bit, .inl (cI, 64, .inl bnf))] sz) := by
  refine Met.ofW (cc := cX2_digitAt) (maxL := 2) (ret := (some .int)) (by decide) rfl ?_
  intro p e s m args below meth c s₁ B hml hv
  obtain ⟨rfl, hsz, hP, hK, hD0, hN⟩ := hv
  have hx := B.exec
  have hb := B.bytes
  have hr := B.returns
  have hts := atoms_spec (ws := wsX2_digitAt) B.pre
  have hown : s.vm.findClass RX2 = some m.cls := findClass_of_methodNamed B.named
  have hlocks := B.notSynchronized
  subst hsz
  have hD := hD0.self (sz := s.heap.size)
  generalize hAe : va_A [(h0, .inr (1, [.ref h1, .int pl])), (h1, .inr (0, [.ref bit, .int bsz])), (bit, .inl (cI, 64, .inl bnf))] s.heap.size = A at hD hN ⊢
  have hA : ∀ q : Nat, s.heap.size ≤ q → A q := fun q h => by rw [← hAe]; exact Or.inr h
  have hS : va_S A s.heap s.heap [] := va_S.rf
  have hl := lv_entry ([.ref h0, .int v]) (n := 2) (Nat.le_of_ble_eq_true rfl)
  rw [lg_entry_eq]
  generalize (lg_sl ([.ref h0, .int v]) ++ List.replicate (2 - (lg_sl ([.ref h0, .int v])).length) Slot.unset).toArray = ls at hl ⊢
  have hl : lv_has ls 2 [(0, .ref h0), (1, .int v)] := hl
  have iX2 : ∀ w ∈ u_ws RX2 TX2 2, w ∈ wsX2_digitAt := fun w h => (List.mem_cons_of_mem _ (List.mem_append_left _ (List.mem_append_right _ h)))
  refine lv_aload_n hx hb dX2_digitAt_0 rfl (lv_at hl 0 rfl) ?_
  refine va_get (D := (dC, dI)) (ci := 1) (v := .ref h1) (C := RX2) (T := TX2) (N := 2) hx hb hts iX2 hown hK hP 0 rfl rfl 0 (by decide) (hts (.fieldLink RX2 14 "NeighboursMark$Reader" "text" "LNeighboursMark$Numbers;") (vm_at 1 rfl)) (fun _ h9 => h9) rfl dX2_digitAt_1 ?_
  refine lv_iload_n hx hb dX2_digitAt_4 rfl (lv_at hl 1 rfl) ?_
  have hPc := hP.sub (ws' := [(h1, .inr (0, [.ref bit, .int bsz])), (bit, .inl (cI, 64, .inl bnf))]) [1, 2] rfl
  have hDc := hD.sub (ws' := [(h1, .inr (0, [.ref bit, .int bsz])), (bit, .inl (cI, 64, .inl bnf))]) [1, 2] (by decide) rfl
  have hFc := va_free (wc := [(h1, .inr (0, [.ref bit, .int bsz])), (bit, .inl (cI, 64, .inl bnf))]) hD hS hA [1, 2] rfl
  refine vx_calli (wc := [(h1, .inr (0, [.ref bit, .int bsz])), (bit, .inl (cI, 64, .inl bnf))]) (wr := [(h0, .inr (1, [.ref h1, .int pl]))]) hP hD hS hA [1, 2] [0] rfl rfl (by decide) (by decide) (va_runV (As := [.int v]) (rest := []) ⟨hx, hb, hml, hown, hts⟩ (a_at64 l dC dI cI cC cZ _ h1 bit v bsz bnf (show 0 ≤ bsz.toInt ∧ bsz.toInt ≤ 64 from ⟨by omega, by omega⟩)) (cwV 1 hts gX2_digitAt_X1_at rfl rfl rfl hv_yX1_at ⟨Nat.le_of_ble_eq_true rfl, Nat.le_of_ble_eq_true rfl⟩) ⟨vx_blind, va_recv hK hPc (ci := 0) (q0 := 0) rfl rfl, vx_pre hK hPc hDc hN hS hFc⟩ rfl rfl hl.1 rfl (lv_room (Nat.le_of_ble_eq_true rfl)) dX2_digitAt_5 ⟨Nat.le_of_ble_eq_true rfl, Nat.le_of_ble_eq_true rfl⟩) (fun r2 u1 H locs hw3 hP hD hS => ?_)
  have hP : va_P (dC, dI) vwCl [(h0, .inr (1, [.ref h1, .int pl])), (h1, .inr (0, [.ref bit, .int bsz])), (bit, .inl (cI, 64, .inl bnf))] H := hP
  have hD : va_D A [(h0, .inr (1, [.ref h1, .int pl])), (h1, .inr (0, [.ref bit, .int bsz])), (bit, .inl (cI, 64, .inl bnf))] := hD
  obtain ⟨hr2, -⟩ := hw3
  refine lv_bipush (v := 48) hx hb dX2_digitAt_8 (by decide) ?_
  refine lv_isub hx hb dX2_digitAt_10 ?_
  refine lv_topi (fun x4 ex4 => ?_)
  exact vx_iret (u := ((fun k => ([] : List Int32).getD k 0), (fun k => ([] : List (Nat → Int32)).getD k (fun _ => 0)))) hx hb hr hlocks hK hP hD hS [0, 1, 2] rfl (by decide) ⟨trivial, trivial⟩ dX2_digitAt_11
set_option maxHeartbeats 8000000 in
set_option maxRecDepth 100000 in
theorem a_passSt (l : Launch) (dC : Nat → ClassId) (dI : Nat → Nat → Nat) (cI cC cZ : ClassId) (sz : Nat) (h0 h1 bit : Nat) (pl bsz : Int32) (bnf : Nat → Int32) (b_bsz : 0 ≤ bsz.toInt ∧ bsz.toInt ≤ 64) : Met l yX2_passStatement wsX2_passStatement ({ frames := 1, cells := 0, slots := 0, locals := 21 }) (va_Pc [.ref h0] (vx_B (dC, dI) (vx_T cI cC cZ) sz [(h0, .inr (1, [.ref h1, .int pl])), (h1, .inr (0, [.ref bit, .int bsz])), (bit, .inl (cI, 64, .inl bnf))])) (va_Qi (fun (r : Int32) (u : (Nat → Int32) × (Nat → Nat → Int32)) => (0 ≤ r.toInt ∧ r.toInt ≤ 1) ∧ True) (vx_C (dC, dI) (vx_T cI cC cZ) (va_A [(h0, .inr (1, [.ref h1, .int pl])), (h1, .inr (0, [.ref bit, .int bsz])), (bit, .inl (cI, 64, .inl bnf))] sz) (fun (u : (Nat → Int32) × (Nat → Nat → Int32)) => [(h0, .inr (1, [.ref h1, .int (u.1 0)])), (h1, .inr (0, [.ref bit, .int bsz])), (bit, .inl (cI, 64, .inl bnf))])) (va_A [(h0, .inr (1, [.ref h1, .int pl])), (h1, .inr (0, [.ref bit, .int bsz])), (bit, .inl (cI, 64, .inl bnf))] sz)) 0 0 (va_A [(h0, .inr (1, [.ref h1, .int pl])), (h1, .inr (0, [.ref bit, .int bsz])), (bit, .inl (cI, 64, .inl bnf))] sz) := by
  refine Met.ofW (cc := cX2_passStatement) (maxL := 6) (ret := (some .boolean)) (by decide) rfl ?_
  intro p e s m args below meth c s₁ B hml hv
  obtain ⟨rfl, hsz, hP, hK, hD0, hN⟩ := hv
  have hx := B.exec
  have hb := B.bytes
  have hr := B.returns
  have hts := atoms_spec (ws := wsX2_passStatement) B.pre
  have hown : s.vm.findClass RX2 = some m.cls := findClass_of_methodNamed B.named
  have hlocks := B.notSynchronized
  subst hsz
  have hD := hD0.self (sz := s.heap.size)
  generalize hAe : va_A [(h0, .inr (1, [.ref h1, .int pl])), (h1, .inr (0, [.ref bit, .int bsz])), (bit, .inl (cI, 64, .inl bnf))] s.heap.size = A at hD hN ⊢
  have hA : ∀ q : Nat, s.heap.size ≤ q → A q := fun q h => by rw [← hAe]; exact Or.inr h
  have hS : va_S A s.heap s.heap [] := va_S.rf
  have hl := lv_entry ([.ref h0]) (n := 6) (Nat.le_of_ble_eq_true rfl)
  rw [lg_entry_eq]
  generalize (lg_sl ([.ref h0]) ++ List.replicate (6 - (lg_sl ([.ref h0])).length) Slot.unset).toArray = ls at hl ⊢
  have hl : lv_has ls 6 [(0, .ref h0)] := hl
  have iX2 : ∀ w ∈ u_ws RX2 TX2 2, w ∈ wsX2_passStatement := fun w h => (List.mem_cons_of_mem _ (List.mem_append_left _ (List.mem_append_right _ h)))
  refine lv_aload_n hx hb dX2_passStatement_0 rfl (lv_at hl 0 rfl) ?_
  refine va_get (D := (dC, dI)) (ci := 1) (v := .ref h1) (C := RX2) (T := TX2) (N := 2) hx hb hts iX2 hown hK hP 0 rfl rfl 0 (by decide) (hts (.fieldLink RX2 14 "NeighboursMark$Reader" "text" "LNeighboursMark$Numbers;") (vm_at 1 rfl)) (fun _ h9 => h9) rfl dX2_passStatement_1 ?_
  refine lv_aload_n hx hb dX2_passStatement_4 rfl (lv_at hl 0 rfl) ?_
  refine va_get (D := (dC, dI)) (ci := 1) (v := .int pl) (C := RX2) (T := TX2) (N := 2) hx hb hts iX2 hown hK hP 0 rfl rfl 1 (by decide) (hts (.fieldLink RX2 20 "NeighboursMark$Reader" "place" "I") (vm_at 2 rfl)) (fun _ h9 => h9) rfl dX2_passStatement_5 ?_
  have hPc := hP.sub (ws' := [(h1, .inr (0, [.ref bit, .int bsz])), (bit, .inl (cI, 64, .inl bnf))]) [1, 2] rfl
  have hDc := hD.sub (ws' := [(h1, .inr (0, [.ref bit, .int bsz])), (bit, .inl (cI, 64, .inl bnf))]) [1, 2] (by decide) rfl
  have hFc := va_free (wc := [(h1, .inr (0, [.ref bit, .int bsz])), (bit, .inl (cI, 64, .inl bnf))]) hD hS hA [1, 2] rfl
  refine vx_calli (wc := [(h1, .inr (0, [.ref bit, .int bsz])), (bit, .inl (cI, 64, .inl bnf))]) (wr := [(h0, .inr (1, [.ref h1, .int pl]))]) hP hD hS hA [1, 2] [0] rfl rfl (by decide) (by decide) (va_runV (As := [.int pl]) (rest := []) ⟨hx, hb, hml, hown, hts⟩ (a_at64 l dC dI cI cC cZ _ h1 bit pl bsz bnf (show 0 ≤ bsz.toInt ∧ bsz.toInt ≤ 64 from ⟨by omega, by omega⟩)) (cwV 1 hts gX2_passStatement_X1_at rfl rfl rfl hv_yX1_at ⟨Nat.le_of_ble_eq_true rfl, Nat.le_of_ble_eq_true rfl⟩) ⟨vx_blind, va_recv hK hPc (ci := 0) (q0 := 0) rfl rfl, vx_pre hK hPc hDc hN hS hFc⟩ rfl rfl hl.1 rfl (lv_room (Nat.le_of_ble_eq_true rfl)) dX2_passStatement_8 ⟨Nat.le_of_ble_eq_true rfl, Nat.le_of_ble_eq_true rfl⟩) (fun r2 u1 H locs hw3 hP hD hS => ?_)
  have hP : va_P (dC, dI) vwCl [(h0, .inr (1, [.ref h1, .int pl])), (h1, .inr (0, [.ref bit, .int bsz])), (bit, .inl (cI, 64, .inl bnf))] H := hP
  have hD : va_D A [(h0, .inr (1, [.ref h1, .int pl])), (h1, .inr (0, [.ref bit, .int bsz])), (bit, .inl (cI, 64, .inl bnf))] := hD
  obtain ⟨hr2, -⟩ := hw3
  refine lv_istore_n (lv' := [(1, .int r2), (0, .ref h0)]) hx hb dX2_passStatement_11 rfl hl (by decide) rfl (fun ls hl => ?_)
  refine lv_iload_n hx hb dX2_passStatement_12 rfl (lv_at hl 0 rfl) ?_
  have hPc := hP.sub (ws' := []) [] rfl
  have hDc := hD.sub (ws' := []) [] (by decide) rfl
  have hFc := va_free (wc := []) hD hS hA [] rfl
  refine vx_calli (wc := []) (wr := [(h0, .inr (1, [.ref h1, .int pl])), (h1, .inr (0, [.ref bit, .int bsz])), (bit, .inl (cI, 64, .inl bnf))]) hP hD hS hA [] [0, 1, 2] rfl rfl (by decide) (by decide) (va_runS (As := [.int r2]) (rest := []) ⟨hx, hb, hml, hown, hts⟩ (a_behind l dC dI cI cC cZ _ r2) (va_cwS 1 hts gX2_passStatement_X2_lettersBehind rfl rfl rfl hv_yX2_lettersBehind.2 ⟨Nat.le_of_ble_eq_true rfl, Nat.le_of_ble_eq_true rfl⟩) ⟨vx_blind, vx_pre hK hPc hDc hN hS hFc⟩ rfl rfl hl.1 rfl (lv_room (Nat.le_of_ble_eq_true rfl)) dX2_passStatement_13 ⟨Nat.le_of_ble_eq_true rfl, Nat.le_of_ble_eq_true rfl⟩) (fun r5 u4 H locs hw6 hP hD hS => ?_)
  have hP : va_P (dC, dI) vwCl [(h0, .inr (1, [.ref h1, .int pl])), (h1, .inr (0, [.ref bit, .int bsz])), (bit, .inl (cI, 64, .inl bnf))] H := hP
  have hD : va_D A [(h0, .inr (1, [.ref h1, .int pl])), (h1, .inr (0, [.ref bit, .int bsz])), (bit, .inl (cI, 64, .inl bnf))] := hD
  obtain ⟨hr5, -⟩ := hw6
  have hr5 : -1 ≤ r5.toInt ∧ r5.toInt ≤ 3 := hr5
  refine lv_istore_n (lv' := [(2, .int r5), (1, .int r2), (0, .ref h0)]) hx hb dX2_passStatement_16 rfl hl (by decide) rfl (fun ls hl => ?_)
  refine lv_iload_n hx hb dX2_passStatement_17 rfl (lv_at hl 0 rfl) ?_
  refine lv_if_ge (tgt := 23) hx hb dX2_passStatement_18 (by decide) (fun c7 => ?_) (fun c7 => ?_)
  · have c7 : r5.toInt ≥ 0 := vy_le c7
    refine lv_aload_n hx hb dX2_passStatement_23 rfl (lv_at hl 2 rfl) ?_
    refine lv_dup hx hb dX2_passStatement_24 rfl ?_
    refine va_get (D := (dC, dI)) (ci := 1) (v := .int pl) (C := RX2) (T := TX2) (N := 2) hx hb hts iX2 hown hK hP 0 rfl rfl 1 (by decide) (hts (.fieldLink RX2 20 "NeighboursMark$Reader" "place" "I") (vm_at 2 rfl)) (fun _ h9 => h9) rfl dX2_passStatement_25 ?_
    refine lv_iconst (v := 1) hx hb dX2_passStatement_28 (by decide) ?_
    refine lv_iadd hx hb dX2_passStatement_29 ?_
    refine va_put (D := (dC, dI)) (ci := 1) (v := .int (pl + 1)) (ty := .int) (C := RX2) (T := TX2) (N := 2) hx hb hts iX2 tyX2 tyX2_ok nmX2 hown hK hP hD hS 0 rfl rfl 1 (by decide) (hts (.fieldLink RX2 20 "NeighboursMark$Reader" "place" "I") (vm_at 2 rfl)) (fun _ h9 => h9) rfl (tyX2_ok 1 (by decide)) rfl rfl (Nat.le_of_ble_eq_true rfl) dX2_passStatement_30 (fun H locs hP hD hS => ?_)
    have hP : va_P (dC, dI) vwCl [(h0, .inr (1, [.ref h1, .int (pl + 1)])), (h1, .inr (0, [.ref bit, .int bsz])), (bit, .inl (cI, 64, .inl bnf))] H := hP
    have hD : va_D A [(h0, .inr (1, [.ref h1, .int (pl + 1)])), (h1, .inr (0, [.ref bit, .int bsz])), (bit, .inl (cI, 64, .inl bnf))] := hD
    refine lv_iconst (v := 0) hx hb dX2_passStatement_33 (by decide) ?_
    have J35 : ∀ (d35 : Nat) (v35_1 v35_2 v35_3 g35_0_1 : Int32), (0 ≤ v35_2.toInt ∧ v35_2.toInt ≤ 3) → (0 ≤ v35_3.toInt ∧ v35_3.toInt ≤ 3) → (4 - v35_3.toInt < (d35 : Int)) → ∀ (H : Heap) (locs : List Loc) (ls : Array Slot), lv_has ls 6 [(0, .ref h0), (1, .int v35_1), (2, .int v35_2), (3, .int v35_3)] → va_P (dC, dI) vwCl [(h0, .inr (1, [.ref h1, .int g35_0_1])), (h1, .inr (0, [.ref bit, .int bsz])), (bit, .inl (cI, 64, .inl bnf))] H → va_D A [(h0, .inr (1, [.ref h1, .int g35_0_1])), (h1, .inr (0, [.ref bit, .int bsz])), (bit, .inl (cI, 64, .inl bnf))] → va_S A s.heap H locs → W p l e (headSpec wsX2_passStatement ({ frames := 1, cells := 0, slots := 0, locals := 21 })).room s m ([.ref h0].toArray) below meth c H locs 0 0 (MQ below (va_Qi (fun (r : Int32) (u : (Nat → Int32) × (Nat → Nat → Int32)) => (0 ≤ r.toInt ∧ r.toInt ≤ 1) ∧ True) (vx_C (dC, dI) (vx_T cI cC cZ) A (fun (u : (Nat → Int32) × (Nat → Nat → Int32)) => [(h0, .inr (1, [.ref h1, .int (u.1 0)])), (h1, .inr (0, [.ref bit, .int bsz])), (bit, .inl (cI, 64, .inl bnf))])) A) ([.ref h0].toArray) s 0 0 A) (F0 m 35 ls []) := by
      intro d35
      induction d35 with
      | zero => intro v35_1 v35_2 v35_3 g35_0_1 b_v35_2 b_v35_3 hd35; exfalso; omega
      | succ d35 ih35 =>
        intro v35_1 v35_2 v35_3 g35_0_1 b_v35_2 b_v35_3 hd35 H locs ls hl hP hD hS
        refine lv_iload_n hx hb dX2_passStatement_35 rfl (lv_at hl 3 rfl) ?_
        refine lv_iload_n hx hb dX2_passStatement_36 rfl (lv_at hl 2 rfl) ?_
        refine lv_icmp_ge (tgt := 109) hx hb dX2_passStatement_37 (by decide) (fun c8 => ?_) (fun c8 => ?_)
        · have c8 : v35_3.toInt ≥ v35_2.toInt := vy_le c8
          refine lv_iload_n hx hb dX2_passStatement_109 rfl (lv_at hl 1 rfl) ?_
          refine lv_bipush (v := 109) hx hb dX2_passStatement_110 (by decide) ?_
          have J142 : ∀ (g142_0_1 : Int32), ∀ (H : Heap) (locs : List Loc) (ls : Array Slot), lv_has ls 6 [(0, .ref h0)] → va_P (dC, dI) vwCl [(h0, .inr (1, [.ref h1, .int g142_0_1])), (h1, .inr (0, [.ref bit, .int bsz])), (bit, .inl (cI, 64, .inl bnf))] H → va_D A [(h0, .inr (1, [.ref h1, .int g142_0_1])), (h1, .inr (0, [.ref bit, .int bsz])), (bit, .inl (cI, 64, .inl bnf))] → va_S A s.heap H locs → W p l e (headSpec wsX2_passStatement ({ frames := 1, cells := 0, slots := 0, locals := 21 })).room s m ([.ref h0].toArray) below meth c H locs 0 0 (MQ below (va_Qi (fun (r : Int32) (u : (Nat → Int32) × (Nat → Nat → Int32)) => (0 ≤ r.toInt ∧ r.toInt ≤ 1) ∧ True) (vx_C (dC, dI) (vx_T cI cC cZ) A (fun (u : (Nat → Int32) × (Nat → Nat → Int32)) => [(h0, .inr (1, [.ref h1, .int (u.1 0)])), (h1, .inr (0, [.ref bit, .int bsz])), (bit, .inl (cI, 64, .inl bnf))])) A) ([.ref h0].toArray) s 0 0 A) (F0 m 142 ls []) := by
            intro g142_0_1 H locs ls hl hP hD hS
            refine lv_aload_n hx hb dX2_passStatement_142 rfl (lv_at hl 0 rfl) ?_
            refine va_get (D := (dC, dI)) (ci := 1) (v := .ref h1) (C := RX2) (T := TX2) (N := 2) hx hb hts iX2 hown hK hP 0 rfl rfl 0 (by decide) (hts (.fieldLink RX2 14 "NeighboursMark$Reader" "text" "LNeighboursMark$Numbers;") (vm_at 1 rfl)) (fun _ h9 => h9) rfl dX2_passStatement_143 ?_
            refine lv_aload_n hx hb dX2_passStatement_146 rfl (lv_at hl 0 rfl) ?_
            refine va_get (D := (dC, dI)) (ci := 1) (v := .int g142_0_1) (C := RX2) (T := TX2) (N := 2) hx hb hts iX2 hown hK hP 0 rfl rfl 1 (by decide) (hts (.fieldLink RX2 20 "NeighboursMark$Reader" "place" "I") (vm_at 2 rfl)) (fun _ h9 => h9) rfl dX2_passStatement_147 ?_
            have hPc := hP.sub (ws' := [(h1, .inr (0, [.ref bit, .int bsz])), (bit, .inl (cI, 64, .inl bnf))]) [1, 2] rfl
            have hDc := hD.sub (ws' := [(h1, .inr (0, [.ref bit, .int bsz])), (bit, .inl (cI, 64, .inl bnf))]) [1, 2] (by decide) rfl
            have hFc := va_free (wc := [(h1, .inr (0, [.ref bit, .int bsz])), (bit, .inl (cI, 64, .inl bnf))]) hD hS hA [1, 2] rfl
            refine vx_calli (wc := [(h1, .inr (0, [.ref bit, .int bsz])), (bit, .inl (cI, 64, .inl bnf))]) (wr := [(h0, .inr (1, [.ref h1, .int g142_0_1]))]) hP hD hS hA [1, 2] [0] rfl rfl (by decide) (by decide) (va_runV (As := [.int g142_0_1]) (rest := []) ⟨hx, hb, hml, hown, hts⟩ (a_at64 l dC dI cI cC cZ _ h1 bit g142_0_1 bsz bnf (show 0 ≤ bsz.toInt ∧ bsz.toInt ≤ 64 from ⟨by omega, by omega⟩)) (cwV 1 hts gX2_passStatement_X1_at rfl rfl rfl hv_yX1_at ⟨Nat.le_of_ble_eq_true rfl, Nat.le_of_ble_eq_true rfl⟩) ⟨vx_blind, va_recv hK hPc (ci := 0) (q0 := 0) rfl rfl, vx_pre hK hPc hDc hN hS hFc⟩ rfl rfl hl.1 rfl (lv_room (Nat.le_of_ble_eq_true rfl)) dX2_passStatement_150 ⟨Nat.le_of_ble_eq_true rfl, Nat.le_of_ble_eq_true rfl⟩) (fun r10 u9 H locs hw11 hP hD hS => ?_)
            have hP : va_P (dC, dI) vwCl [(h0, .inr (1, [.ref h1, .int g142_0_1])), (h1, .inr (0, [.ref bit, .int bsz])), (bit, .inl (cI, 64, .inl bnf))] H := hP
            have hD : va_D A [(h0, .inr (1, [.ref h1, .int g142_0_1])), (h1, .inr (0, [.ref bit, .int bsz])), (bit, .inl (cI, 64, .inl bnf))] := hD
            obtain ⟨hr10, -⟩ := hw11
            refine lv_bipush (v := 59) hx hb dX2_passStatement_153 (by decide) ?_
            refine lv_icmp_eq (tgt := 160) hx hb dX2_passStatement_155 (by decide) (fun c12 => ?_) (fun c12 => ?_)
            · have c12 : r10.toInt = 59 := vy_eq c12
              refine lv_aload_n hx hb dX2_passStatement_160 rfl (lv_at hl 0 rfl) ?_
              refine lv_dup hx hb dX2_passStatement_161 rfl ?_
              refine va_get (D := (dC, dI)) (ci := 1) (v := .int g142_0_1) (C := RX2) (T := TX2) (N := 2) hx hb hts iX2 hown hK hP 0 rfl rfl 1 (by decide) (hts (.fieldLink RX2 20 "NeighboursMark$Reader" "place" "I") (vm_at 2 rfl)) (fun _ h9 => h9) rfl dX2_passStatement_162 ?_
              refine lv_iconst (v := 1) hx hb dX2_passStatement_165 (by decide) ?_
              refine lv_iadd hx hb dX2_passStatement_166 ?_
              refine va_put (D := (dC, dI)) (ci := 1) (v := .int (g142_0_1 + 1)) (ty := .int) (C := RX2) (T := TX2) (N := 2) hx hb hts iX2 tyX2 tyX2_ok nmX2 hown hK hP hD hS 0 rfl rfl 1 (by decide) (hts (.fieldLink RX2 20 "NeighboursMark$Reader" "place" "I") (vm_at 2 rfl)) (fun _ h9 => h9) rfl (tyX2_ok 1 (by decide)) rfl rfl (Nat.le_of_ble_eq_true rfl) dX2_passStatement_167 (fun H locs hP hD hS => ?_)
              have hP : va_P (dC, dI) vwCl [(h0, .inr (1, [.ref h1, .int (g142_0_1 + 1)])), (h1, .inr (0, [.ref bit, .int bsz])), (bit, .inl (cI, 64, .inl bnf))] H := hP
              have hD : va_D A [(h0, .inr (1, [.ref h1, .int (g142_0_1 + 1)])), (h1, .inr (0, [.ref bit, .int bsz])), (bit, .inl (cI, 64, .inl bnf))] := hD
              refine lv_iconst (v := 1) hx hb dX2_passStatement_170 (by decide) ?_
              exact vx_zret (u := ((fun k => ([(g142_0_1 + 1)] : List Int32).getD k 0), (fun k => ([] : List (Nat → Int32)).getD k (fun _ => 0)))) hx hb hr rfl hlocks hK hP hD hS [0, 1, 2] rfl (by decide) ⟨(by decide), trivial⟩ dX2_passStatement_171
            · have c12 : r10.toInt ≠ 59 := vy_ne c12
              refine lv_iconst (v := 0) hx hb dX2_passStatement_158 (by decide) ?_
              exact vx_zret (u := ((fun k => ([g142_0_1] : List Int32).getD k 0), (fun k => ([] : List (Nat → Int32)).getD k (fun _ => 0)))) hx hb hr rfl hlocks hK hP hD hS [0, 1, 2] rfl (by decide) ⟨(by decide), trivial⟩ dX2_passStatement_159
          refine lv_icmp_ne (tgt := 142) hx hb dX2_passStatement_112 (by decide) (fun c13 => ?_) (fun c13 => ?_)
          · have c13 : v35_1.toInt ≠ 109 := vy_ne c13
            exact J142 g35_0_1 _ _ _ (lv_sub hl [0] rfl) (hP.sub [0, 1, 2] rfl) (hD.sub [0, 1, 2] (by decide) rfl) hS
          · have c13 : v35_1.toInt = 109 := vy_eq c13
            refine lv_aload_n hx hb dX2_passStatement_115 rfl (lv_at hl 0 rfl) ?_
            refine va_get (D := (dC, dI)) (ci := 1) (v := .ref h1) (C := RX2) (T := TX2) (N := 2) hx hb hts iX2 hown hK hP 0 rfl rfl 0 (by decide) (hts (.fieldLink RX2 14 "NeighboursMark$Reader" "text" "LNeighboursMark$Numbers;") (vm_at 1 rfl)) (fun _ h9 => h9) rfl dX2_passStatement_116 ?_
            refine lv_aload_n hx hb dX2_passStatement_119 rfl (lv_at hl 0 rfl) ?_
            refine va_get (D := (dC, dI)) (ci := 1) (v := .int g35_0_1) (C := RX2) (T := TX2) (N := 2) hx hb hts iX2 hown hK hP 0 rfl rfl 1 (by decide) (hts (.fieldLink RX2 20 "NeighboursMark$Reader" "place" "I") (vm_at 2 rfl)) (fun _ h9 => h9) rfl dX2_passStatement_120 ?_
            have hPc := hP.sub (ws' := [(h1, .inr (0, [.ref bit, .int bsz])), (bit, .inl (cI, 64, .inl bnf))]) [1, 2] rfl
            have hDc := hD.sub (ws' := [(h1, .inr (0, [.ref bit, .int bsz])), (bit, .inl (cI, 64, .inl bnf))]) [1, 2] (by decide) rfl
            have hFc := va_free (wc := [(h1, .inr (0, [.ref bit, .int bsz])), (bit, .inl (cI, 64, .inl bnf))]) hD hS hA [1, 2] rfl
            refine vx_calli (wc := [(h1, .inr (0, [.ref bit, .int bsz])), (bit, .inl (cI, 64, .inl bnf))]) (wr := [(h0, .inr (1, [.ref h1, .int g35_0_1]))]) hP hD hS hA [1, 2] [0] rfl rfl (by decide) (by decide) (va_runV (As := [.int g35_0_1]) (rest := []) ⟨hx, hb, hml, hown, hts⟩ (a_at64 l dC dI cI cC cZ _ h1 bit g35_0_1 bsz bnf (show 0 ≤ bsz.toInt ∧ bsz.toInt ≤ 64 from ⟨by omega, by omega⟩)) (cwV 1 hts gX2_passStatement_X1_at rfl rfl rfl hv_yX1_at ⟨Nat.le_of_ble_eq_true rfl, Nat.le_of_ble_eq_true rfl⟩) ⟨vx_blind, va_recv hK hPc (ci := 0) (q0 := 0) rfl rfl, vx_pre hK hPc hDc hN hS hFc⟩ rfl rfl hl.1 rfl (lv_room (Nat.le_of_ble_eq_true rfl)) dX2_passStatement_123 ⟨Nat.le_of_ble_eq_true rfl, Nat.le_of_ble_eq_true rfl⟩) (fun r15 u14 H locs hw16 hP hD hS => ?_)
            have hP : va_P (dC, dI) vwCl [(h0, .inr (1, [.ref h1, .int g35_0_1])), (h1, .inr (0, [.ref bit, .int bsz])), (bit, .inl (cI, 64, .inl bnf))] H := hP
            have hD : va_D A [(h0, .inr (1, [.ref h1, .int g35_0_1])), (h1, .inr (0, [.ref bit, .int bsz])), (bit, .inl (cI, 64, .inl bnf))] := hD
            obtain ⟨hr15, -⟩ := hw16
            have hPc := hP.sub (ws' := []) [] rfl
            have hDc := hD.sub (ws' := []) [] (by decide) rfl
            have hFc := va_free (wc := []) hD hS hA [] rfl
            refine vx_calli (wc := []) (wr := [(h0, .inr (1, [.ref h1, .int g35_0_1])), (h1, .inr (0, [.ref bit, .int bsz])), (bit, .inl (cI, 64, .inl bnf))]) hP hD hS hA [] [0, 1, 2] rfl rfl (by decide) (by decide) (va_runS (As := [.int r15]) (rest := []) ⟨hx, hb, hml, hown, hts⟩ (a_isDigit l dC dI cI cC cZ _ r15) (va_cwS 1 hts gX2_passStatement_X2_isDigit rfl rfl rfl hv_yX2_isDigit.2 ⟨Nat.le_of_ble_eq_true rfl, Nat.le_of_ble_eq_true rfl⟩) ⟨vx_blind, vx_pre hK hPc hDc hN hS hFc⟩ rfl rfl hl.1 rfl (lv_room (Nat.le_of_ble_eq_true rfl)) dX2_passStatement_126 ⟨Nat.le_of_ble_eq_true rfl, Nat.le_of_ble_eq_true rfl⟩) (fun r18 u17 H locs hw19 hP hD hS => ?_)
            have hP : va_P (dC, dI) vwCl [(h0, .inr (1, [.ref h1, .int g35_0_1])), (h1, .inr (0, [.ref bit, .int bsz])), (bit, .inl (cI, 64, .inl bnf))] H := hP
            have hD : va_D A [(h0, .inr (1, [.ref h1, .int g35_0_1])), (h1, .inr (0, [.ref bit, .int bsz])), (bit, .inl (cI, 64, .inl bnf))] := hD
            obtain ⟨hr18, -⟩ := hw19
            have hr18 : 0 ≤ r18.toInt ∧ r18.toInt ≤ 1 := hr18
            refine lv_if_eq (tgt := 142) hx hb dX2_passStatement_129 (by decide) (fun c20 => ?_) (fun c20 => ?_)
            · have c20 : r18.toInt = 0 := vy_eq c20
              exact J142 g35_0_1 _ _ _ (lv_sub hl [0] rfl) (hP.sub [0, 1, 2] rfl) (hD.sub [0, 1, 2] (by decide) rfl) hS
            · have c20 : r18.toInt ≠ 0 := vy_ne c20
              refine lv_aload_n hx hb dX2_passStatement_132 rfl (lv_at hl 0 rfl) ?_
              refine lv_dup hx hb dX2_passStatement_133 rfl ?_
              refine va_get (D := (dC, dI)) (ci := 1) (v := .int g35_0_1) (C := RX2) (T := TX2) (N := 2) hx hb hts iX2 hown hK hP 0 rfl rfl 1 (by decide) (hts (.fieldLink RX2 20 "NeighboursMark$Reader" "place" "I") (vm_at 2 rfl)) (fun _ h9 => h9) rfl dX2_passStatement_134 ?_
              refine lv_iconst (v := 1) hx hb dX2_passStatement_137 (by decide) ?_
              refine lv_iadd hx hb dX2_passStatement_138 ?_
              refine va_put (D := (dC, dI)) (ci := 1) (v := .int (g35_0_1 + 1)) (ty := .int) (C := RX2) (T := TX2) (N := 2) hx hb hts iX2 tyX2 tyX2_ok nmX2 hown hK hP hD hS 0 rfl rfl 1 (by decide) (hts (.fieldLink RX2 20 "NeighboursMark$Reader" "place" "I") (vm_at 2 rfl)) (fun _ h9 => h9) rfl (tyX2_ok 1 (by decide)) rfl rfl (Nat.le_of_ble_eq_true rfl) dX2_passStatement_139 (fun H locs hP hD hS => ?_)
              have hP : va_P (dC, dI) vwCl [(h0, .inr (1, [.ref h1, .int (g35_0_1 + 1)])), (h1, .inr (0, [.ref bit, .int bsz])), (bit, .inl (cI, 64, .inl bnf))] H := hP
              have hD : va_D A [(h0, .inr (1, [.ref h1, .int (g35_0_1 + 1)])), (h1, .inr (0, [.ref bit, .int bsz])), (bit, .inl (cI, 64, .inl bnf))] := hD
              exact J142 (g35_0_1 + 1) _ _ _ (lv_sub hl [0] rfl) (hP.sub [0, 1, 2] rfl) (hD.sub [0, 1, 2] (by decide) rfl) hS
        · have c8 : v35_3.toInt < v35_2.toInt := vy_nle c8
          refine lv_aload_n hx hb dX2_passStatement_40 rfl (lv_at hl 0 rfl) ?_
          refine va_get (D := (dC, dI)) (ci := 1) (v := .ref h1) (C := RX2) (T := TX2) (N := 2) hx hb hts iX2 hown hK hP 0 rfl rfl 0 (by decide) (hts (.fieldLink RX2 14 "NeighboursMark$Reader" "text" "LNeighboursMark$Numbers;") (vm_at 1 rfl)) (fun _ h9 => h9) rfl dX2_passStatement_41 ?_
          refine lv_aload_n hx hb dX2_passStatement_44 rfl (lv_at hl 0 rfl) ?_
          refine va_get (D := (dC, dI)) (ci := 1) (v := .int g35_0_1) (C := RX2) (T := TX2) (N := 2) hx hb hts iX2 hown hK hP 0 rfl rfl 1 (by decide) (hts (.fieldLink RX2 20 "NeighboursMark$Reader" "place" "I") (vm_at 2 rfl)) (fun _ h9 => h9) rfl dX2_passStatement_45 ?_
          have hPc := hP.sub (ws' := [(h1, .inr (0, [.ref bit, .int bsz])), (bit, .inl (cI, 64, .inl bnf))]) [1, 2] rfl
          have hDc := hD.sub (ws' := [(h1, .inr (0, [.ref bit, .int bsz])), (bit, .inl (cI, 64, .inl bnf))]) [1, 2] (by decide) rfl
          have hFc := va_free (wc := [(h1, .inr (0, [.ref bit, .int bsz])), (bit, .inl (cI, 64, .inl bnf))]) hD hS hA [1, 2] rfl
          refine vx_calli (wc := [(h1, .inr (0, [.ref bit, .int bsz])), (bit, .inl (cI, 64, .inl bnf))]) (wr := [(h0, .inr (1, [.ref h1, .int g35_0_1]))]) hP hD hS hA [1, 2] [0] rfl rfl (by decide) (by decide) (va_runV (As := [.int g35_0_1]) (rest := []) ⟨hx, hb, hml, hown, hts⟩ (a_at64 l dC dI cI cC cZ _ h1 bit g35_0_1 bsz bnf (show 0 ≤ bsz.toInt ∧ bsz.toInt ≤ 64 from ⟨by omega, by omega⟩)) (cwV 1 hts gX2_passStatement_X1_at rfl rfl rfl hv_yX1_at ⟨Nat.le_of_ble_eq_true rfl, Nat.le_of_ble_eq_true rfl⟩) ⟨vx_blind, va_recv hK hPc (ci := 0) (q0 := 0) rfl rfl, vx_pre hK hPc hDc hN hS hFc⟩ rfl rfl hl.1 rfl (lv_room (Nat.le_of_ble_eq_true rfl)) dX2_passStatement_48 ⟨Nat.le_of_ble_eq_true rfl, Nat.le_of_ble_eq_true rfl⟩) (fun r22 u21 H locs hw23 hP hD hS => ?_)
          have hP : va_P (dC, dI) vwCl [(h0, .inr (1, [.ref h1, .int g35_0_1])), (h1, .inr (0, [.ref bit, .int bsz])), (bit, .inl (cI, 64, .inl bnf))] H := hP
          have hD : va_D A [(h0, .inr (1, [.ref h1, .int g35_0_1])), (h1, .inr (0, [.ref bit, .int bsz])), (bit, .inl (cI, 64, .inl bnf))] := hD
          obtain ⟨hr22, -⟩ := hw23
          refine lv_istore (lv' := [(4, .int r22), (0, .ref h0), (1, .int v35_1), (2, .int v35_2), (3, .int v35_3)]) hx hb dX2_passStatement_51 hl (by decide) rfl (fun ls hl => ?_)
          refine lv_iload_n hx hb dX2_passStatement_53 rfl (lv_at hl 2 rfl) ?_
          refine lv_bipush (v := 112) hx hb dX2_passStatement_54 (by decide) ?_
          have J84 : ∀ (s84_0 : Int32), (0 ≤ s84_0.toInt ∧ s84_0.toInt ≤ 1) → ∀ (H : Heap) (locs : List Loc) (ls : Array Slot), lv_has ls 6 [(0, .ref h0), (1, .int v35_1), (2, .int v35_2), (3, .int v35_3)] → va_P (dC, dI) vwCl [(h0, .inr (1, [.ref h1, .int g35_0_1])), (h1, .inr (0, [.ref bit, .int bsz])), (bit, .inl (cI, 64, .inl bnf))] H → va_D A [(h0, .inr (1, [.ref h1, .int g35_0_1])), (h1, .inr (0, [.ref bit, .int bsz])), (bit, .inl (cI, 64, .inl bnf))] → va_S A s.heap H locs → W p l e (headSpec wsX2_passStatement ({ frames := 1, cells := 0, slots := 0, locals := 21 })).room s m ([.ref h0].toArray) below meth c H locs 0 0 (MQ below (va_Qi (fun (r : Int32) (u : (Nat → Int32) × (Nat → Nat → Int32)) => (0 ≤ r.toInt ∧ r.toInt ≤ 1) ∧ True) (vx_C (dC, dI) (vx_T cI cC cZ) A (fun (u : (Nat → Int32) × (Nat → Nat → Int32)) => [(h0, .inr (1, [.ref h1, .int (u.1 0)])), (h1, .inr (0, [.ref bit, .int bsz])), (bit, .inl (cI, 64, .inl bnf))])) A) ([.ref h0].toArray) s 0 0 A) (F0 m 84 ls [.int s84_0]) := by
            intro s84_0 b_s84_0 H locs ls hl hP hD hS
            refine lv_istore (lv' := [(5, .int s84_0), (0, .ref h0), (1, .int v35_1), (2, .int v35_2), (3, .int v35_3)]) hx hb dX2_passStatement_84 hl (by decide) rfl (fun ls hl => ?_)
            refine lv_iload hx hb dX2_passStatement_86 (lv_at hl 0 rfl) ?_
            refine lv_if_ne (tgt := 93) hx hb dX2_passStatement_88 (by decide) (fun c24 => ?_) (fun c24 => ?_)
            · have c24 : s84_0.toInt ≠ 0 := vy_ne c24
              refine lv_aload_n hx hb dX2_passStatement_93 rfl (lv_at hl 1 rfl) ?_
              refine lv_dup hx hb dX2_passStatement_94 rfl ?_
              refine va_get (D := (dC, dI)) (ci := 1) (v := .int g35_0_1) (C := RX2) (T := TX2) (N := 2) hx hb hts iX2 hown hK hP 0 rfl rfl 1 (by decide) (hts (.fieldLink RX2 20 "NeighboursMark$Reader" "place" "I") (vm_at 2 rfl)) (fun _ h9 => h9) rfl dX2_passStatement_95 ?_
              refine lv_iconst (v := 1) hx hb dX2_passStatement_98 (by decide) ?_
              refine lv_iadd hx hb dX2_passStatement_99 ?_
              refine va_put (D := (dC, dI)) (ci := 1) (v := .int (g35_0_1 + 1)) (ty := .int) (C := RX2) (T := TX2) (N := 2) hx hb hts iX2 tyX2 tyX2_ok nmX2 hown hK hP hD hS 0 rfl rfl 1 (by decide) (hts (.fieldLink RX2 20 "NeighboursMark$Reader" "place" "I") (vm_at 2 rfl)) (fun _ h9 => h9) rfl (tyX2_ok 1 (by decide)) rfl rfl (Nat.le_of_ble_eq_true rfl) dX2_passStatement_100 (fun H locs hP hD hS => ?_)
              have hP : va_P (dC, dI) vwCl [(h0, .inr (1, [.ref h1, .int (g35_0_1 + 1)])), (h1, .inr (0, [.ref bit, .int bsz])), (bit, .inl (cI, 64, .inl bnf))] H := hP
              have hD : va_D A [(h0, .inr (1, [.ref h1, .int (g35_0_1 + 1)])), (h1, .inr (0, [.ref bit, .int bsz])), (bit, .inl (cI, 64, .inl bnf))] := hD
              have f25 := vy_add (x := v35_3) (y := 1) rfl (show ((1 : Int32)).toInt = 1 by decide) (by omega) (by omega)
              refine lv_iinc (v := (v35_3 + 1)) (lv' := [(3, .int (v35_3 + 1)), (5, .int s84_0), (0, .ref h0), (1, .int v35_1), (2, .int v35_2)]) hx hb dX2_passStatement_103 hl (k := 4) rfl rfl (by decide) rfl (fun ls hl => ?_)
              refine lv_goto (tgt := 35) hx hb dX2_passStatement_106 (by decide) ?_
              exact ih35 v35_1 v35_2 (v35_3 + 1) (g35_0_1 + 1) ⟨by omega, by omega⟩ ⟨by omega, by omega⟩ (show 4 - (v35_3 + 1).toInt < (d35 : Int) by omega) _ _ _ (lv_sub hl [2, 3, 4, 0] rfl) (hP.sub [0, 1, 2] rfl) (hD.sub [0, 1, 2] (by decide) rfl) hS
            · have c24 : s84_0.toInt = 0 := vy_eq c24
              refine lv_iconst (v := 0) hx hb dX2_passStatement_91 (by decide) ?_
              exact vx_zret (u := ((fun k => ([g35_0_1] : List Int32).getD k 0), (fun k => ([] : List (Nat → Int32)).getD k (fun _ => 0)))) hx hb hr rfl hlocks hK hP hD hS [0, 1, 2] rfl (by decide) ⟨(by decide), trivial⟩ dX2_passStatement_92
          have J79 : ∀ (v79_4 : Int32), ∀ (H : Heap) (locs : List Loc) (ls : Array Slot), lv_has ls 6 [(0, .ref h0), (1, .int v35_1), (2, .int v35_2), (3, .int v35_3), (4, .int v79_4)] → va_P (dC, dI) vwCl [(h0, .inr (1, [.ref h1, .int g35_0_1])), (h1, .inr (0, [.ref bit, .int bsz])), (bit, .inl (cI, 64, .inl bnf))] H → va_D A [(h0, .inr (1, [.ref h1, .int g35_0_1])), (h1, .inr (0, [.ref bit, .int bsz])), (bit, .inl (cI, 64, .inl bnf))] → va_S A s.heap H locs → W p l e (headSpec wsX2_passStatement ({ frames := 1, cells := 0, slots := 0, locals := 21 })).room s m ([.ref h0].toArray) below meth c H locs 0 0 (MQ below (va_Qi (fun (r : Int32) (u : (Nat → Int32) × (Nat → Nat → Int32)) => (0 ≤ r.toInt ∧ r.toInt ≤ 1) ∧ True) (vx_C (dC, dI) (vx_T cI cC cZ) A (fun (u : (Nat → Int32) × (Nat → Nat → Int32)) => [(h0, .inr (1, [.ref h1, .int (u.1 0)])), (h1, .inr (0, [.ref bit, .int bsz])), (bit, .inl (cI, 64, .inl bnf))])) A) ([.ref h0].toArray) s 0 0 A) (F0 m 79 ls []) := by
            intro v79_4 H locs ls hl hP hD hS
            refine lv_iload hx hb dX2_passStatement_79 (lv_at hl 4 rfl) ?_
            have hPc := hP.sub (ws' := []) [] rfl
            have hDc := hD.sub (ws' := []) [] (by decide) rfl
            have hFc := va_free (wc := []) hD hS hA [] rfl
            refine vx_calli (wc := []) (wr := [(h0, .inr (1, [.ref h1, .int g35_0_1])), (h1, .inr (0, [.ref bit, .int bsz])), (bit, .inl (cI, 64, .inl bnf))]) hP hD hS hA [] [0, 1, 2] rfl rfl (by decide) (by decide) (va_runS (As := [.int v79_4]) (rest := []) ⟨hx, hb, hml, hown, hts⟩ (a_isDigit l dC dI cI cC cZ _ v79_4) (va_cwS 1 hts gX2_passStatement_X2_isDigit rfl rfl rfl hv_yX2_isDigit.2 ⟨Nat.le_of_ble_eq_true rfl, Nat.le_of_ble_eq_true rfl⟩) ⟨vx_blind, vx_pre hK hPc hDc hN hS hFc⟩ rfl rfl hl.1 rfl (lv_room (Nat.le_of_ble_eq_true rfl)) dX2_passStatement_81 ⟨Nat.le_of_ble_eq_true rfl, Nat.le_of_ble_eq_true rfl⟩) (fun r27 u26 H locs hw28 hP hD hS => ?_)
            have hP : va_P (dC, dI) vwCl [(h0, .inr (1, [.ref h1, .int g35_0_1])), (h1, .inr (0, [.ref bit, .int bsz])), (bit, .inl (cI, 64, .inl bnf))] H := hP
            have hD : va_D A [(h0, .inr (1, [.ref h1, .int g35_0_1])), (h1, .inr (0, [.ref bit, .int bsz])), (bit, .inl (cI, 64, .inl bnf))] := hD
            obtain ⟨hr27, -⟩ := hw28
            have hr27 : 0 ≤ r27.toInt ∧ r27.toInt ≤ 1 := hr27
            exact J84 r27 ⟨by omega, by omega⟩ _ _ _ (lv_sub hl [0, 1, 2, 3] rfl) (hP.sub [0, 1, 2] rfl) (hD.sub [0, 1, 2] (by decide) rfl) hS
          refine lv_icmp_ne (tgt := 79) hx hb dX2_passStatement_56 (by decide) (fun c29 => ?_) (fun c29 => ?_)
          · have c29 : v35_1.toInt ≠ 112 := vy_ne c29
            exact J79 r22 _ _ _ (lv_sub hl [1, 2, 3, 4, 0] rfl) (hP.sub [0, 1, 2] rfl) (hD.sub [0, 1, 2] (by decide) rfl) hS
          · have c29 : v35_1.toInt = 112 := vy_eq c29
            refine lv_iload_n hx hb dX2_passStatement_59 rfl (lv_at hl 4 rfl) ?_
            refine lv_if_ne (tgt := 79) hx hb dX2_passStatement_60 (by decide) (fun c30 => ?_) (fun c30 => ?_)
            · have c30 : v35_3.toInt ≠ 0 := vy_ne c30
              exact J79 r22 _ _ _ (lv_sub hl [1, 2, 3, 4, 0] rfl) (hP.sub [0, 1, 2] rfl) (hD.sub [0, 1, 2] (by decide) rfl) hS
            · have c30 : v35_3.toInt = 0 := vy_eq c30
              refine lv_iload hx hb dX2_passStatement_63 (lv_at hl 0 rfl) ?_
              have hPc := hP.sub (ws' := []) [] rfl
              have hDc := hD.sub (ws' := []) [] (by decide) rfl
              have hFc := va_free (wc := []) hD hS hA [] rfl
              refine vx_calli (wc := []) (wr := [(h0, .inr (1, [.ref h1, .int g35_0_1])), (h1, .inr (0, [.ref bit, .int bsz])), (bit, .inl (cI, 64, .inl bnf))]) hP hD hS hA [] [0, 1, 2] rfl rfl (by decide) (by decide) (va_runS (As := [.int r22]) (rest := []) ⟨hx, hb, hml, hown, hts⟩ (a_kindOf l dC dI cI cC cZ _ r22) (va_cwS 1 hts gX2_passStatement_X2_kindOf rfl rfl rfl hv_yX2_kindOf.2 ⟨Nat.le_of_ble_eq_true rfl, Nat.le_of_ble_eq_true rfl⟩) ⟨vx_blind, vx_pre hK hPc hDc hN hS hFc⟩ rfl rfl hl.1 rfl (lv_room (Nat.le_of_ble_eq_true rfl)) dX2_passStatement_65 ⟨Nat.le_of_ble_eq_true rfl, Nat.le_of_ble_eq_true rfl⟩) (fun r32 u31 H locs hw33 hP hD hS => ?_)
              have hP : va_P (dC, dI) vwCl [(h0, .inr (1, [.ref h1, .int g35_0_1])), (h1, .inr (0, [.ref bit, .int bsz])), (bit, .inl (cI, 64, .inl bnf))] H := hP
              have hD : va_D A [(h0, .inr (1, [.ref h1, .int g35_0_1])), (h1, .inr (0, [.ref bit, .int bsz])), (bit, .inl (cI, 64, .inl bnf))] := hD
              obtain ⟨hr32, -⟩ := hw33
              have hr32 : -1 ≤ r32.toInt ∧ r32.toInt ≤ 5 := hr32
              refine lv_if_lt (tgt := 75) hx hb dX2_passStatement_68 (by decide) (fun c34 => ?_) (fun c34 => ?_)
              · have c34 : r32.toInt < 0 := vy_lt c34
                refine lv_iconst (v := 0) hx hb dX2_passStatement_75 (by decide) ?_
                refine lv_goto (tgt := 84) hx hb dX2_passStatement_76 (by decide) ?_
                exact J84 (0) (by decide) _ _ _ (lv_sub hl [1, 2, 3, 4] rfl) (hP.sub [0, 1, 2] rfl) (hD.sub [0, 1, 2] (by decide) rfl) hS
              · have c34 : r32.toInt ≥ 0 := vy_nlt c34
                refine lv_iconst (v := 1) hx hb dX2_passStatement_71 (by decide) ?_
                refine lv_goto (tgt := 84) hx hb dX2_passStatement_72 (by decide) ?_
                exact J84 (1) (by decide) _ _ _ (lv_sub hl [1, 2, 3, 4] rfl) (hP.sub [0, 1, 2] rfl) (hD.sub [0, 1, 2] (by decide) rfl) hS
    refine lv_istore_n (lv' := [(3, .int 0), (2, .int r5), (1, .int r2), (0, .ref h0)]) hx hb dX2_passStatement_34 rfl hl (by decide) rfl (fun ls hl => ?_)
    exact J35 6 r2 r5 (0) (pl + 1) ⟨by omega, by omega⟩ (by decide) (show 4 - 0 < (6 : Int) by omega) _ _ _ (lv_sub hl [3, 2, 1, 0] rfl) (hP.sub [0, 1, 2] rfl) (hD.sub [0, 1, 2] (by decide) rfl) hS
  · have c7 : r5.toInt < 0 := vy_nle c7
    refine lv_iconst (v := 0) hx hb dX2_passStatement_21 (by decide) ?_
    exact vx_zret (u := ((fun k => ([pl] : List Int32).getD k 0), (fun k => ([] : List (Nat → Int32)).getD k (fun _ => 0)))) hx hb hr rfl hlocks hK hP hD hS [0, 1, 2] rfl (by decide) ⟨(by decide), trivial⟩ dX2_passStatement_22
set_option maxHeartbeats 8000000 in
set_option maxRecDepth 100000 in
theorem a_tellLaw (l : Launch) (dC : Nat → ClassId) (dI : Nat → Nat → Nat) (cI cC cZ : ClassId) (sz : Nat) (h2 ck0 ck1 ck2 ck3 ck4 ck5 ck6 ck7 ck8 ck9 : Nat) (v ccnt chrs clw cpv cwk crg : Int32) (cf0 cf1 cf2 cf3 cf4 cf5 cf6 cf7 cf8 cf9 : Nat → Int32) (b_ccnt : 0 ≤ ccnt.toInt ∧ ccnt.toInt ≤ 6) (b_chrs : 1 ≤ chrs.toInt ∧ chrs.toInt ≤ 3) (b_crg : 0 ≤ crg.toInt ∧ crg.toInt ≤ 1) : Met l yX2_tellLaw wsX2_tellLaw ({ frames := 1, cells := 0, slots := 0, locals := 20 }) (va_Pc [.ref h2, .int v] (vx_B (dC, dI) (vx_T cI cC cZ) sz [(h2, .inr (2, [.int ccnt, .int chrs, .int clw, .int cpv, .int cwk, .int crg, .ref ck0, .ref ck1, .ref ck2, .ref ck3, .ref ck4, .ref ck5, .ref ck6, .ref ck7, .ref ck8, .ref ck9])), (ck0, .inl (cI, 6, .inl cf0)), (ck1, .inl (cI, 6, .inl cf1)), (ck2, .inl (cI, 6, .inl cf2)), (ck3, .inl (cI, 6, .inl cf3)), (ck4, .inl (cI, 6, .inl cf4)), (ck5, .inl (cI, 6, .inl cf5)), (ck6, .inl (cI, 6, .inl cf6)), (ck7, .inl (cI, 6, .inl cf7)), (ck8, .inl (cI, 6, .inl cf8)), (ck9, .inl (cI, 6, .inl cf9))])) (va_Qi (fun (r : Int32) (u : (Nat → Int32) × (Nat → Nat → Int32)) => (0 ≤ r.toInt ∧ r.toInt ≤ 1) ∧ True) (vx_C (dC, dI) (vx_T cI cC cZ) (va_A [(h2, .inr (2, [.int ccnt, .int chrs, .int clw, .int cpv, .int cwk, .int crg, .ref ck0, .ref ck1, .ref ck2, .ref ck3, .ref ck4, .ref ck5, .ref ck6, .ref ck7, .ref ck8, .ref ck9])), (ck0, .inl (cI, 6, .inl cf0)), (ck1, .inl (cI, 6, .inl cf1)), (ck2, .inl (cI, 6, .inl cf2)), (ck3, .inl (cI, 6, .inl cf3)), (ck4, .inl (cI, 6, .inl cf4)), (ck5, .inl (cI, 6, .inl cf5)), (ck6, .inl (cI, 6, .inl cf6)), (ck7, .inl (cI, 6, .inl cf7)), (ck8, .inl (cI, 6, .inl cf8)), (ck9, .inl (cI, 6, .inl cf9))] sz) (fun (u : (Nat → Int32) × (Nat → Nat → Int32)) => [(h2, .inr (2, [.int ccnt, .int chrs, .int (u.1 0), .int cpv, .int cwk, .int crg, .ref ck0, .ref ck1, .ref ck2, .ref ck3, .ref ck4, .ref ck5, .ref ck6, .ref ck7, .ref ck8, .ref ck9])), (ck0, .inl (cI, 6, .inl cf0)), (ck1, .inl (cI, 6, .inl cf1)), (ck2, .inl (cI, 6, .inl cf2)), (ck3, .inl (cI, 6, .inl cf3)), (ck4, .inl (cI, 6, .inl cf4)), (ck5, .inl (cI, 6, .inl cf5)), (ck6, .inl (cI, 6, .inl cf6)), (ck7, .inl (cI, 6, .inl cf7)), (ck8, .inl (cI, 6, .inl cf8)), (ck9, .inl (cI, 6, .inl cf9))])) (va_A [(h2, .inr (2, [.int ccnt, .int chrs, .int clw, .int cpv, .int cwk, .int crg, .ref ck0, .ref ck1, .ref ck2, .ref ck3, .ref ck4, .ref ck5, .ref ck6, .ref ck7, .ref ck8, .ref ck9])), (ck0, .inl (cI, 6, .inl cf0)), (ck1, .inl (cI, 6, .inl cf1)), (ck2, .inl (cI, 6, .inl cf2)), (ck3, .inl (cI, 6, .inl cf3)), (ck4, .inl (cI, 6, .inl cf4)), (ck5, .inl (cI, 6, .inl cf5)), (ck6, .inl (cI, 6, .inl cf6)), (ck7, .inl (cI, 6, .inl cf7)), (ck8, .inl (cI, 6, .inl cf8)), (ck9, .inl (cI, 6, .inl cf9))] sz)) 0 0 (va_A [(h2, .inr (2, [.int ccnt, .int chrs, .int clw, .int cpv, .int cwk, .int crg, .ref ck0, .ref ck1, .ref ck2, .ref ck3, .ref ck4, .ref ck5, .ref ck6, .ref ck7, .ref ck8, .ref ck9])), (ck0, .inl (cI, 6, .inl cf0)), (ck1, .inl (cI, 6, .inl cf1)), (ck2, .inl (cI, 6, .inl cf2)), (ck3, .inl (cI, 6, .inl cf3)), (ck4, .inl (cI, 6, .inl cf4)), (ck5, .inl (cI, 6, .inl cf5)), (ck6, .inl (cI, 6, .inl cf6)), (ck7, .inl (cI, 6, .inl cf7)), (ck8, .inl (cI, 6, .inl cf8)), (ck9, .inl (cI, 6, .inl cf9))] sz) := by
  refine Met.ofW (cc := cX2_tellLaw) (maxL := 2) (ret := (some .boolean)) (by decide) rfl ?_
  intro p e s m args below meth c s₁ B hml hv
  obtain ⟨rfl, hsz, hP, hK, hD0, hN⟩ := hv
  have hx := B.exec
  have hb := B.bytes
  have hr := B.returns
  have hts := atoms_spec (ws := wsX2_tellLaw) B.pre
  have hown : s.vm.findClass RX2 = some m.cls := findClass_of_methodNamed B.named
  have hlocks := B.notSynchronized
  subst hsz
  have hD := hD0.self (sz := s.heap.size)
  generalize hAe : va_A [(h2, .inr (2, [.int ccnt, .int chrs, .int clw, .int cpv, .int cwk, .int crg, .ref ck0, .ref ck1, .ref ck2, .ref ck3, .ref ck4, .ref ck5, .ref ck6, .ref ck7, .ref ck8, .ref ck9])), (ck0, .inl (cI, 6, .inl cf0)), (ck1, .inl (cI, 6, .inl cf1)), (ck2, .inl (cI, 6, .inl cf2)), (ck3, .inl (cI, 6, .inl cf3)), (ck4, .inl (cI, 6, .inl cf4)), (ck5, .inl (cI, 6, .inl cf5)), (ck6, .inl (cI, 6, .inl cf6)), (ck7, .inl (cI, 6, .inl cf7)), (ck8, .inl (cI, 6, .inl cf8)), (ck9, .inl (cI, 6, .inl cf9))] s.heap.size = A at hD hN ⊢
  have hA : ∀ q : Nat, s.heap.size ≤ q → A q := fun q h => by rw [← hAe]; exact Or.inr h
  have hS : va_S A s.heap s.heap [] := va_S.rf
  have hl := lv_entry ([.ref h2, .int v]) (n := 2) (Nat.le_of_ble_eq_true rfl)
  rw [lg_entry_eq]
  generalize (lg_sl ([.ref h2, .int v]) ++ List.replicate (2 - (lg_sl ([.ref h2, .int v])).length) Slot.unset).toArray = ls at hl ⊢
  have hl : lv_has ls 2 [(0, .ref h2), (1, .int v)] := hl
  have iX3 : ∀ w ∈ u_ws RX3 TX3 16, w ∈ wsX2_tellLaw := fun w h => (List.mem_cons_of_mem _ (List.mem_append_right _ h))
  refine lv_iload_n hx hb dX2_tellLaw_0 rfl (lv_at hl 1 rfl) ?_
  have hPc := hP.sub (ws' := []) [] rfl
  have hDc := hD.sub (ws' := []) [] (by decide) rfl
  have hFc := va_free (wc := []) hD hS hA [] rfl
  refine vx_calli (wc := []) (wr := [(h2, .inr (2, [.int ccnt, .int chrs, .int clw, .int cpv, .int cwk, .int crg, .ref ck0, .ref ck1, .ref ck2, .ref ck3, .ref ck4, .ref ck5, .ref ck6, .ref ck7, .ref ck8, .ref ck9])), (ck0, .inl (cI, 6, .inl cf0)), (ck1, .inl (cI, 6, .inl cf1)), (ck2, .inl (cI, 6, .inl cf2)), (ck3, .inl (cI, 6, .inl cf3)), (ck4, .inl (cI, 6, .inl cf4)), (ck5, .inl (cI, 6, .inl cf5)), (ck6, .inl (cI, 6, .inl cf6)), (ck7, .inl (cI, 6, .inl cf7)), (ck8, .inl (cI, 6, .inl cf8)), (ck9, .inl (cI, 6, .inl cf9))]) hP hD hS hA [] [0, 1, 2, 3, 4, 5, 6, 7, 8, 9, 10] rfl rfl (by decide) (by decide) (va_runSN (As := [.int v]) (rest := []) ⟨hx, hb, hml, hown, hts⟩ (a_isLaw l dC dI cI cC cZ _ v) ⟨va_cnB 1 hts gX2_tellLaw_X7_isLaw_n80 rfl rfl rfl hN.2.1 (hts (.initialized RX7) (vm_at 3 rfl)) hv_yX7_isLaw.2 ⟨Nat.le_of_ble_eq_true rfl, Nat.le_of_ble_eq_true rfl⟩, hts (.static yX7_isLaw) (vm_at 2 rfl), trivial⟩ ⟨vx_blind, vx_pre hK hPc hDc hN hS hFc⟩ rfl rfl hl.1 rfl (lv_room (Nat.le_of_ble_eq_true rfl)) dX2_tellLaw_1 ⟨Nat.le_of_ble_eq_true rfl, Nat.le_of_ble_eq_true rfl⟩) (fun r2 u1 H locs hw3 hP hD hS => ?_)
  have hP : va_P (dC, dI) vwCl [(h2, .inr (2, [.int ccnt, .int chrs, .int clw, .int cpv, .int cwk, .int crg, .ref ck0, .ref ck1, .ref ck2, .ref ck3, .ref ck4, .ref ck5, .ref ck6, .ref ck7, .ref ck8, .ref ck9])), (ck0, .inl (cI, 6, .inl cf0)), (ck1, .inl (cI, 6, .inl cf1)), (ck2, .inl (cI, 6, .inl cf2)), (ck3, .inl (cI, 6, .inl cf3)), (ck4, .inl (cI, 6, .inl cf4)), (ck5, .inl (cI, 6, .inl cf5)), (ck6, .inl (cI, 6, .inl cf6)), (ck7, .inl (cI, 6, .inl cf7)), (ck8, .inl (cI, 6, .inl cf8)), (ck9, .inl (cI, 6, .inl cf9))] H := hP
  have hD : va_D A [(h2, .inr (2, [.int ccnt, .int chrs, .int clw, .int cpv, .int cwk, .int crg, .ref ck0, .ref ck1, .ref ck2, .ref ck3, .ref ck4, .ref ck5, .ref ck6, .ref ck7, .ref ck8, .ref ck9])), (ck0, .inl (cI, 6, .inl cf0)), (ck1, .inl (cI, 6, .inl cf1)), (ck2, .inl (cI, 6, .inl cf2)), (ck3, .inl (cI, 6, .inl cf3)), (ck4, .inl (cI, 6, .inl cf4)), (ck5, .inl (cI, 6, .inl cf5)), (ck6, .inl (cI, 6, .inl cf6)), (ck7, .inl (cI, 6, .inl cf7)), (ck8, .inl (cI, 6, .inl cf8)), (ck9, .inl (cI, 6, .inl cf9))] := hD
  obtain ⟨hr2, -⟩ := hw3
  have hr2 : 0 ≤ r2.toInt ∧ r2.toInt ≤ 1 := hr2
  refine lv_if_ne (tgt := 9) hx hb dX2_tellLaw_4 (by decide) (fun c4 => ?_) (fun c4 => ?_)
  · have c4 : r2.toInt ≠ 0 := vy_ne c4
    refine lv_aload_n hx hb dX2_tellLaw_9 rfl (lv_at hl 0 rfl) ?_
    refine lv_iload_n hx hb dX2_tellLaw_10 rfl (lv_at hl 1 rfl) ?_
    refine va_put (D := (dC, dI)) (ci := 2) (v := .int v) (ty := .int) (C := RX3) (T := TX3) (N := 16) hx hb hts iX3 tyX3 tyX3_ok nmX3 hown hK hP hD hS 0 rfl rfl 2 (by decide) (hts (.fieldLink RX2 83 "NeighboursMark$School" "law" "I") (vm_at 1 rfl)) (fun _ h9 => h9) rfl (tyX3_ok 2 (by decide)) rfl rfl (Nat.le_of_ble_eq_true rfl) dX2_tellLaw_11 (fun H locs hP hD hS => ?_)
    have hP : va_P (dC, dI) vwCl [(h2, .inr (2, [.int ccnt, .int chrs, .int v, .int cpv, .int cwk, .int crg, .ref ck0, .ref ck1, .ref ck2, .ref ck3, .ref ck4, .ref ck5, .ref ck6, .ref ck7, .ref ck8, .ref ck9])), (ck0, .inl (cI, 6, .inl cf0)), (ck1, .inl (cI, 6, .inl cf1)), (ck2, .inl (cI, 6, .inl cf2)), (ck3, .inl (cI, 6, .inl cf3)), (ck4, .inl (cI, 6, .inl cf4)), (ck5, .inl (cI, 6, .inl cf5)), (ck6, .inl (cI, 6, .inl cf6)), (ck7, .inl (cI, 6, .inl cf7)), (ck8, .inl (cI, 6, .inl cf8)), (ck9, .inl (cI, 6, .inl cf9))] H := hP
    have hD : va_D A [(h2, .inr (2, [.int ccnt, .int chrs, .int v, .int cpv, .int cwk, .int crg, .ref ck0, .ref ck1, .ref ck2, .ref ck3, .ref ck4, .ref ck5, .ref ck6, .ref ck7, .ref ck8, .ref ck9])), (ck0, .inl (cI, 6, .inl cf0)), (ck1, .inl (cI, 6, .inl cf1)), (ck2, .inl (cI, 6, .inl cf2)), (ck3, .inl (cI, 6, .inl cf3)), (ck4, .inl (cI, 6, .inl cf4)), (ck5, .inl (cI, 6, .inl cf5)), (ck6, .inl (cI, 6, .inl cf6)), (ck7, .inl (cI, 6, .inl cf7)), (ck8, .inl (cI, 6, .inl cf8)), (ck9, .inl (cI, 6, .inl cf9))] := hD
    refine lv_iconst (v := 1) hx hb dX2_tellLaw_14 (by decide) ?_
    exact vx_zret (u := ((fun k => ([v] : List Int32).getD k 0), (fun k => ([] : List (Nat → Int32)).getD k (fun _ => 0)))) hx hb hr rfl hlocks hK hP hD hS [0, 1, 2, 3, 4, 5, 6, 7, 8, 9, 10] rfl (by decide) ⟨(by decide), trivial⟩ dX2_tellLaw_15
  · have c4 : r2.toInt = 0 := vy_eq c4
    refine lv_iconst (v := 0) hx hb dX2_tellLaw_7 (by decide) ?_
    exact vx_zret (u := ((fun k => ([clw] : List Int32).getD k 0), (fun k => ([] : List (Nat → Int32)).getD k (fun _ => 0)))) hx hb hr rfl hlocks hK hP hD hS [0, 1, 2, 3, 4, 5, 6, 7, 8, 9, 10] rfl (by decide) ⟨(by decide), trivial⟩ dX2_tellLaw_8
set_option maxHeartbeats 8000000 in
set_option maxRecDepth 100000 in
theorem a_tellChange (l : Launch) (dC : Nat → ClassId) (dI : Nat → Nat → Nat) (cI cC cZ : ClassId) (sz : Nat) (h2 ck0 ck1 ck2 ck3 ck4 ck5 ck6 ck7 ck8 ck9 : Nat) (v1 v2 ccnt chrs clw cpv cwk crg : Int32) (cf0 cf1 cf2 cf3 cf4 cf5 cf6 cf7 cf8 cf9 : Nat → Int32) (b_ccnt : 0 ≤ ccnt.toInt ∧ ccnt.toInt ≤ 6) (b_chrs : 1 ≤ chrs.toInt ∧ chrs.toInt ≤ 3) (b_crg : 0 ≤ crg.toInt ∧ crg.toInt ≤ 1) : Met l yX2_tellChange wsX2_tellChange ({ frames := 3, cells := 0, slots := 0, locals := 69 }) (va_Pc [.ref h2, .int v1, .int v2] (vx_B (dC, dI) (vx_T cI cC cZ) sz [(h2, .inr (2, [.int ccnt, .int chrs, .int clw, .int cpv, .int cwk, .int crg, .ref ck0, .ref ck1, .ref ck2, .ref ck3, .ref ck4, .ref ck5, .ref ck6, .ref ck7, .ref ck8, .ref ck9])), (ck0, .inl (cI, 6, .inl cf0)), (ck1, .inl (cI, 6, .inl cf1)), (ck2, .inl (cI, 6, .inl cf2)), (ck3, .inl (cI, 6, .inl cf3)), (ck4, .inl (cI, 6, .inl cf4)), (ck5, .inl (cI, 6, .inl cf5)), (ck6, .inl (cI, 6, .inl cf6)), (ck7, .inl (cI, 6, .inl cf7)), (ck8, .inl (cI, 6, .inl cf8)), (ck9, .inl (cI, 6, .inl cf9))])) (va_Qi (fun (r : Int32) (u : (Nat → Int32) × (Nat → Nat → Int32)) => (0 ≤ r.toInt ∧ r.toInt ≤ 1) ∧ True) (vx_C (dC, dI) (vx_T cI cC cZ) (va_A [(h2, .inr (2, [.int ccnt, .int chrs, .int clw, .int cpv, .int cwk, .int crg, .ref ck0, .ref ck1, .ref ck2, .ref ck3, .ref ck4, .ref ck5, .ref ck6, .ref ck7, .ref ck8, .ref ck9])), (ck0, .inl (cI, 6, .inl cf0)), (ck1, .inl (cI, 6, .inl cf1)), (ck2, .inl (cI, 6, .inl cf2)), (ck3, .inl (cI, 6, .inl cf3)), (ck4, .inl (cI, 6, .inl cf4)), (ck5, .inl (cI, 6, .inl cf5)), (ck6, .inl (cI, 6, .inl cf6)), (ck7, .inl (cI, 6, .inl cf7)), (ck8, .inl (cI, 6, .inl cf8)), (ck9, .inl (cI, 6, .inl cf9))] sz) (fun (u : (Nat → Int32) × (Nat → Nat → Int32)) => [(h2, .inr (2, [.int ccnt, .int chrs, .int clw, .int cpv, .int cwk, .int crg, .ref ck0, .ref ck1, .ref ck2, .ref ck3, .ref ck4, .ref ck5, .ref ck6, .ref ck7, .ref ck8, .ref ck9])), (ck0, .inl (cI, 6, .inl cf0)), (ck1, .inl (cI, 6, .inl cf1)), (ck2, .inl (cI, 6, .inl cf2)), (ck3, .inl (cI, 6, .inl cf3)), (ck4, .inl (cI, 6, .inl cf4)), (ck5, .inl (cI, 6, .inl cf5)), (ck6, .inl (cI, 6, .inl (u.2 0))), (ck7, .inl (cI, 6, .inl (u.2 1))), (ck8, .inl (cI, 6, .inl (u.2 2))), (ck9, .inl (cI, 6, .inl cf9))])) (va_A [(h2, .inr (2, [.int ccnt, .int chrs, .int clw, .int cpv, .int cwk, .int crg, .ref ck0, .ref ck1, .ref ck2, .ref ck3, .ref ck4, .ref ck5, .ref ck6, .ref ck7, .ref ck8, .ref ck9])), (ck0, .inl (cI, 6, .inl cf0)), (ck1, .inl (cI, 6, .inl cf1)), (ck2, .inl (cI, 6, .inl cf2)), (ck3, .inl (cI, 6, .inl cf3)), (ck4, .inl (cI, 6, .inl cf4)), (ck5, .inl (cI, 6, .inl cf5)), (ck6, .inl (cI, 6, .inl cf6)), (ck7, .inl (cI, 6, .inl cf7)), (ck8, .inl (cI, 6, .inl cf8)), (ck9, .inl (cI, 6, .inl cf9))] sz)) 0 0 (va_A [(h2, .inr (2, [.int ccnt, .int chrs, .int clw, .int cpv, .int cwk, .int crg, .ref ck0, .ref ck1, .ref ck2, .ref ck3, .ref ck4, .ref ck5, .ref ck6, .ref ck7, .ref ck8, .ref ck9])), (ck0, .inl (cI, 6, .inl cf0)), (ck1, .inl (cI, 6, .inl cf1)), (ck2, .inl (cI, 6, .inl cf2)), (ck3, .inl (cI, 6, .inl cf3)), (ck4, .inl (cI, 6, .inl cf4)), (ck5, .inl (cI, 6, .inl cf5)), (ck6, .inl (cI, 6, .inl cf6)), (ck7, .inl (cI, 6, .inl cf7)), (ck8, .inl (cI, 6, .inl cf8)), (ck9, .inl (cI, 6, .inl cf9))] sz) := by
  refine Met.ofW (cc := cX2_tellChange) (maxL := 3) (ret := (some .boolean)) (by decide) rfl ?_
  intro p e s m args below meth c s₁ B hml hv
  obtain ⟨rfl, hsz, hP, hK, hD0, hN⟩ := hv
  have hx := B.exec
  have hb := B.bytes
  have hr := B.returns
  have hts := atoms_spec (ws := wsX2_tellChange) B.pre
  have hown : s.vm.findClass RX2 = some m.cls := findClass_of_methodNamed B.named
  have hlocks := B.notSynchronized
  subst hsz
  have hD := hD0.self (sz := s.heap.size)
  generalize hAe : va_A [(h2, .inr (2, [.int ccnt, .int chrs, .int clw, .int cpv, .int cwk, .int crg, .ref ck0, .ref ck1, .ref ck2, .ref ck3, .ref ck4, .ref ck5, .ref ck6, .ref ck7, .ref ck8, .ref ck9])), (ck0, .inl (cI, 6, .inl cf0)), (ck1, .inl (cI, 6, .inl cf1)), (ck2, .inl (cI, 6, .inl cf2)), (ck3, .inl (cI, 6, .inl cf3)), (ck4, .inl (cI, 6, .inl cf4)), (ck5, .inl (cI, 6, .inl cf5)), (ck6, .inl (cI, 6, .inl cf6)), (ck7, .inl (cI, 6, .inl cf7)), (ck8, .inl (cI, 6, .inl cf8)), (ck9, .inl (cI, 6, .inl cf9))] s.heap.size = A at hD hN ⊢
  have hA : ∀ q : Nat, s.heap.size ≤ q → A q := fun q h => by rw [← hAe]; exact Or.inr h
  have hS : va_S A s.heap s.heap [] := va_S.rf
  have hl := lv_entry ([.ref h2, .int v1, .int v2]) (n := 3) (Nat.le_of_ble_eq_true rfl)
  rw [lg_entry_eq]
  generalize (lg_sl ([.ref h2, .int v1, .int v2]) ++ List.replicate (3 - (lg_sl ([.ref h2, .int v1, .int v2])).length) Slot.unset).toArray = ls at hl ⊢
  have hl : lv_has ls 3 [(0, .ref h2), (1, .int v1), (2, .int v2)] := hl
  refine lv_aload_n hx hb dX2_tellChange_0 rfl (lv_at hl 0 rfl) ?_
  refine lv_iload_n hx hb dX2_tellChange_1 rfl (lv_at hl 1 rfl) ?_
  have hPc := hP.sub (ws' := [(h2, .inr (2, [.int ccnt, .int chrs, .int clw, .int cpv, .int cwk, .int crg, .ref ck0, .ref ck1, .ref ck2, .ref ck3, .ref ck4, .ref ck5, .ref ck6, .ref ck7, .ref ck8, .ref ck9]))]) [0] rfl
  have hDc := hD.sub (ws' := [(h2, .inr (2, [.int ccnt, .int chrs, .int clw, .int cpv, .int cwk, .int crg, .ref ck0, .ref ck1, .ref ck2, .ref ck3, .ref ck4, .ref ck5, .ref ck6, .ref ck7, .ref ck8, .ref ck9]))]) [0] (by decide) rfl
  have hFc := va_free (wc := [(h2, .inr (2, [.int ccnt, .int chrs, .int clw, .int cpv, .int cwk, .int crg, .ref ck0, .ref ck1, .ref ck2, .ref ck3, .ref ck4, .ref ck5, .ref ck6, .ref ck7, .ref ck8, .ref ck9]))]) hD hS hA [0] rfl
  refine vx_calli (wc := [(h2, .inr (2, [.int ccnt, .int chrs, .int clw, .int cpv, .int cwk, .int crg, .ref ck0, .ref ck1, .ref ck2, .ref ck3, .ref ck4, .ref ck5, .ref ck6, .ref ck7, .ref ck8, .ref ck9]))]) (wr := [(ck0, .inl (cI, 6, .inl cf0)), (ck1, .inl (cI, 6, .inl cf1)), (ck2, .inl (cI, 6, .inl cf2)), (ck3, .inl (cI, 6, .inl cf3)), (ck4, .inl (cI, 6, .inl cf4)), (ck5, .inl (cI, 6, .inl cf5)), (ck6, .inl (cI, 6, .inl cf6)), (ck7, .inl (cI, 6, .inl cf7)), (ck8, .inl (cI, 6, .inl cf8)), (ck9, .inl (cI, 6, .inl cf9))]) hP hD hS hA [0] [1, 2, 3, 4, 5, 6, 7, 8, 9, 10] rfl rfl (by decide) (by decide) (va_runV (As := [.int v1]) (rest := []) ⟨hx, hb, hml, hown, hts⟩ (a_has l dC dI cI cC cZ _ h2 ck0 ck1 ck2 ck3 ck4 ck5 ck6 ck7 ck8 ck9 v1 ccnt chrs clw cpv cwk crg (show 0 ≤ ccnt.toInt ∧ ccnt.toInt ≤ 6 from ⟨by omega, by omega⟩) (show 1 ≤ chrs.toInt ∧ chrs.toInt ≤ 3 from ⟨by omega, by omega⟩) (show 0 ≤ crg.toInt ∧ crg.toInt ≤ 1 from ⟨by omega, by omega⟩)) (cwV 1 hts gX2_tellChange_X3_has rfl rfl rfl hv_yX3_has ⟨Nat.le_of_ble_eq_true rfl, Nat.le_of_ble_eq_true rfl⟩) ⟨vx_blind, va_recv hK hPc (ci := 2) (q0 := 0) rfl rfl, vx_pre hK hPc hDc hN hS hFc⟩ rfl rfl hl.1 rfl (lv_room (Nat.le_of_ble_eq_true rfl)) dX2_tellChange_2 ⟨Nat.le_of_ble_eq_true rfl, Nat.le_of_ble_eq_true rfl⟩) (fun r2 u1 H locs hw3 hP hD hS => ?_)
  have hP : va_P (dC, dI) vwCl [(ck0, .inl (cI, 6, .inl cf0)), (ck1, .inl (cI, 6, .inl cf1)), (ck2, .inl (cI, 6, .inl cf2)), (ck3, .inl (cI, 6, .inl cf3)), (ck4, .inl (cI, 6, .inl cf4)), (ck5, .inl (cI, 6, .inl cf5)), (ck6, .inl (cI, 6, .inl cf6)), (ck7, .inl (cI, 6, .inl cf7)), (ck8, .inl (cI, 6, .inl cf8)), (ck9, .inl (cI, 6, .inl cf9)), (h2, .inr (2, [.int ccnt, .int chrs, .int clw, .int cpv, .int cwk, .int crg, .ref ck0, .ref ck1, .ref ck2, .ref ck3, .ref ck4, .ref ck5, .ref ck6, .ref ck7, .ref ck8, .ref ck9]))] H := hP
  have hD : va_D A [(ck0, .inl (cI, 6, .inl cf0)), (ck1, .inl (cI, 6, .inl cf1)), (ck2, .inl (cI, 6, .inl cf2)), (ck3, .inl (cI, 6, .inl cf3)), (ck4, .inl (cI, 6, .inl cf4)), (ck5, .inl (cI, 6, .inl cf5)), (ck6, .inl (cI, 6, .inl cf6)), (ck7, .inl (cI, 6, .inl cf7)), (ck8, .inl (cI, 6, .inl cf8)), (ck9, .inl (cI, 6, .inl cf9)), (h2, .inr (2, [.int ccnt, .int chrs, .int clw, .int cpv, .int cwk, .int crg, .ref ck0, .ref ck1, .ref ck2, .ref ck3, .ref ck4, .ref ck5, .ref ck6, .ref ck7, .ref ck8, .ref ck9]))] := hD
  obtain ⟨hr2, -⟩ := hw3
  rcases hr2 with ⟨er2, kr20, kr21⟩ | er2
  · subst er2
    have kr20 : 0 ≤ v1.toInt := kr20
    have kr21 : v1.toInt < ccnt.toInt := kr21
    have J21 : ∀ (H : Heap) (locs : List Loc) (ls : Array Slot), lv_has ls 3 [] → va_P (dC, dI) vwCl [(h2, .inr (2, [.int ccnt, .int chrs, .int clw, .int cpv, .int cwk, .int crg, .ref ck0, .ref ck1, .ref ck2, .ref ck3, .ref ck4, .ref ck5, .ref ck6, .ref ck7, .ref ck8, .ref ck9])), (ck0, .inl (cI, 6, .inl cf0)), (ck1, .inl (cI, 6, .inl cf1)), (ck2, .inl (cI, 6, .inl cf2)), (ck3, .inl (cI, 6, .inl cf3)), (ck4, .inl (cI, 6, .inl cf4)), (ck5, .inl (cI, 6, .inl cf5)), (ck6, .inl (cI, 6, .inl cf6)), (ck7, .inl (cI, 6, .inl cf7)), (ck8, .inl (cI, 6, .inl cf8)), (ck9, .inl (cI, 6, .inl cf9))] H → va_D A [(h2, .inr (2, [.int ccnt, .int chrs, .int clw, .int cpv, .int cwk, .int crg, .ref ck0, .ref ck1, .ref ck2, .ref ck3, .ref ck4, .ref ck5, .ref ck6, .ref ck7, .ref ck8, .ref ck9])), (ck0, .inl (cI, 6, .inl cf0)), (ck1, .inl (cI, 6, .inl cf1)), (ck2, .inl (cI, 6, .inl cf2)), (ck3, .inl (cI, 6, .inl cf3)), (ck4, .inl (cI, 6, .inl cf4)), (ck5, .inl (cI, 6, .inl cf5)), (ck6, .inl (cI, 6, .inl cf6)), (ck7, .inl (cI, 6, .inl cf7)), (ck8, .inl (cI, 6, .inl cf8)), (ck9, .inl (cI, 6, .inl cf9))] → va_S A s.heap H locs → W p l e (headSpec wsX2_tellChange ({ frames := 3, cells := 0, slots := 0, locals := 69 })).room s m ([.ref h2, .int v1, .int v2].toArray) below meth c H locs 0 0 (MQ below (va_Qi (fun (r : Int32) (u : (Nat → Int32) × (Nat → Nat → Int32)) => (0 ≤ r.toInt ∧ r.toInt ≤ 1) ∧ True) (vx_C (dC, dI) (vx_T cI cC cZ) A (fun (u : (Nat → Int32) × (Nat → Nat → Int32)) => [(h2, .inr (2, [.int ccnt, .int chrs, .int clw, .int cpv, .int cwk, .int crg, .ref ck0, .ref ck1, .ref ck2, .ref ck3, .ref ck4, .ref ck5, .ref ck6, .ref ck7, .ref ck8, .ref ck9])), (ck0, .inl (cI, 6, .inl cf0)), (ck1, .inl (cI, 6, .inl cf1)), (ck2, .inl (cI, 6, .inl cf2)), (ck3, .inl (cI, 6, .inl cf3)), (ck4, .inl (cI, 6, .inl cf4)), (ck5, .inl (cI, 6, .inl cf5)), (ck6, .inl (cI, 6, .inl (u.2 0))), (ck7, .inl (cI, 6, .inl (u.2 1))), (ck8, .inl (cI, 6, .inl (u.2 2))), (ck9, .inl (cI, 6, .inl cf9))])) A) ([.ref h2, .int v1, .int v2].toArray) s 0 0 A) (F0 m 21 ls []) := by
      intro  H locs ls hl hP hD hS
      refine lv_iconst (v := 0) hx hb dX2_tellChange_21 (by decide) ?_
      exact vx_zret (u := ((fun k => ([] : List Int32).getD k 0), (fun k => ([cf6, cf7, cf8] : List (Nat → Int32)).getD k (fun _ => 0)))) hx hb hr rfl hlocks hK hP hD hS [0, 1, 2, 3, 4, 5, 6, 7, 8, 9, 10] rfl (by decide) ⟨(by decide), trivial⟩ dX2_tellChange_22
    refine lv_if_eq (tgt := 21) hx hb dX2_tellChange_5 (by decide) (fun c0 => absurd c0 (by decide)) (fun _ => ?_)
    refine lv_aload_n hx hb dX2_tellChange_8 rfl (lv_at hl 0 rfl) ?_
    refine lv_iload_n hx hb dX2_tellChange_9 rfl (lv_at hl 2 rfl) ?_
    have hPc := hP.sub (ws' := [(h2, .inr (2, [.int ccnt, .int chrs, .int clw, .int cpv, .int cwk, .int crg, .ref ck0, .ref ck1, .ref ck2, .ref ck3, .ref ck4, .ref ck5, .ref ck6, .ref ck7, .ref ck8, .ref ck9]))]) [10] rfl
    have hDc := hD.sub (ws' := [(h2, .inr (2, [.int ccnt, .int chrs, .int clw, .int cpv, .int cwk, .int crg, .ref ck0, .ref ck1, .ref ck2, .ref ck3, .ref ck4, .ref ck5, .ref ck6, .ref ck7, .ref ck8, .ref ck9]))]) [10] (by decide) rfl
    have hFc := va_free (wc := [(h2, .inr (2, [.int ccnt, .int chrs, .int clw, .int cpv, .int cwk, .int crg, .ref ck0, .ref ck1, .ref ck2, .ref ck3, .ref ck4, .ref ck5, .ref ck6, .ref ck7, .ref ck8, .ref ck9]))]) hD hS hA [10] rfl
    refine vx_calli (wc := [(h2, .inr (2, [.int ccnt, .int chrs, .int clw, .int cpv, .int cwk, .int crg, .ref ck0, .ref ck1, .ref ck2, .ref ck3, .ref ck4, .ref ck5, .ref ck6, .ref ck7, .ref ck8, .ref ck9]))]) (wr := [(ck0, .inl (cI, 6, .inl cf0)), (ck1, .inl (cI, 6, .inl cf1)), (ck2, .inl (cI, 6, .inl cf2)), (ck3, .inl (cI, 6, .inl cf3)), (ck4, .inl (cI, 6, .inl cf4)), (ck5, .inl (cI, 6, .inl cf5)), (ck6, .inl (cI, 6, .inl cf6)), (ck7, .inl (cI, 6, .inl cf7)), (ck8, .inl (cI, 6, .inl cf8)), (ck9, .inl (cI, 6, .inl cf9))]) hP hD hS hA [10] [0, 1, 2, 3, 4, 5, 6, 7, 8, 9] rfl rfl (by decide) (by decide) (va_runV (As := [.int v2]) (rest := []) ⟨hx, hb, hml, hown, hts⟩ (a_has l dC dI cI cC cZ _ h2 ck0 ck1 ck2 ck3 ck4 ck5 ck6 ck7 ck8 ck9 v2 ccnt chrs clw cpv cwk crg (show 0 ≤ ccnt.toInt ∧ ccnt.toInt ≤ 6 from ⟨by omega, by omega⟩) (show 1 ≤ chrs.toInt ∧ chrs.toInt ≤ 3 from ⟨by omega, by omega⟩) (show 0 ≤ crg.toInt ∧ crg.toInt ≤ 1 from ⟨by omega, by omega⟩)) (cwV 1 hts gX2_tellChange_X3_has rfl rfl rfl hv_yX3_has ⟨Nat.le_of_ble_eq_true rfl, Nat.le_of_ble_eq_true rfl⟩) ⟨vx_blind, va_recv hK hPc (ci := 2) (q0 := 0) rfl rfl, vx_pre hK hPc hDc hN hS hFc⟩ rfl rfl hl.1 rfl (lv_room (Nat.le_of_ble_eq_true rfl)) dX2_tellChange_10 ⟨Nat.le_of_ble_eq_true rfl, Nat.le_of_ble_eq_true rfl⟩) (fun r5 u4 H locs hw6 hP hD hS => ?_)
    have hP : va_P (dC, dI) vwCl [(ck0, .inl (cI, 6, .inl cf0)), (ck1, .inl (cI, 6, .inl cf1)), (ck2, .inl (cI, 6, .inl cf2)), (ck3, .inl (cI, 6, .inl cf3)), (ck4, .inl (cI, 6, .inl cf4)), (ck5, .inl (cI, 6, .inl cf5)), (ck6, .inl (cI, 6, .inl cf6)), (ck7, .inl (cI, 6, .inl cf7)), (ck8, .inl (cI, 6, .inl cf8)), (ck9, .inl (cI, 6, .inl cf9)), (h2, .inr (2, [.int ccnt, .int chrs, .int clw, .int cpv, .int cwk, .int crg, .ref ck0, .ref ck1, .ref ck2, .ref ck3, .ref ck4, .ref ck5, .ref ck6, .ref ck7, .ref ck8, .ref ck9]))] H := hP
    have hD : va_D A [(ck0, .inl (cI, 6, .inl cf0)), (ck1, .inl (cI, 6, .inl cf1)), (ck2, .inl (cI, 6, .inl cf2)), (ck3, .inl (cI, 6, .inl cf3)), (ck4, .inl (cI, 6, .inl cf4)), (ck5, .inl (cI, 6, .inl cf5)), (ck6, .inl (cI, 6, .inl cf6)), (ck7, .inl (cI, 6, .inl cf7)), (ck8, .inl (cI, 6, .inl cf8)), (ck9, .inl (cI, 6, .inl cf9)), (h2, .inr (2, [.int ccnt, .int chrs, .int clw, .int cpv, .int cwk, .int crg, .ref ck0, .ref ck1, .ref ck2, .ref ck3, .ref ck4, .ref ck5, .ref ck6, .ref ck7, .ref ck8, .ref ck9]))] := hD
    obtain ⟨hr5, -⟩ := hw6
    rcases hr5 with ⟨er5, kr50, kr51⟩ | er5
    · subst er5
      have kr50 : 0 ≤ v2.toInt := kr50
      have kr51 : v2.toInt < ccnt.toInt := kr51
      refine lv_if_eq (tgt := 21) hx hb dX2_tellChange_13 (by decide) (fun c0 => absurd c0 (by decide)) (fun _ => ?_)
      refine lv_iload_n hx hb dX2_tellChange_16 rfl (lv_at hl 1 rfl) ?_
      refine lv_iload_n hx hb dX2_tellChange_17 rfl (lv_at hl 2 rfl) ?_
      refine lv_icmp_ne (tgt := 23) hx hb dX2_tellChange_18 (by decide) (fun c7 => ?_) (fun c7 => ?_)
      · have c7 : v1.toInt ≠ v2.toInt := vy_ne c7
        refine lv_aload_n hx hb dX2_tellChange_23 rfl (lv_at hl 0 rfl) ?_
        refine lv_iload_n hx hb dX2_tellChange_24 rfl (lv_at hl 1 rfl) ?_
        refine lv_iload_n hx hb dX2_tellChange_25 rfl (lv_at hl 2 rfl) ?_
        have hPc := hP.sub (ws' := [(h2, .inr (2, [.int ccnt, .int chrs, .int clw, .int cpv, .int cwk, .int crg, .ref ck0, .ref ck1, .ref ck2, .ref ck3, .ref ck4, .ref ck5, .ref ck6, .ref ck7, .ref ck8, .ref ck9])), (ck0, .inl (cI, 6, .inl cf0)), (ck1, .inl (cI, 6, .inl cf1)), (ck2, .inl (cI, 6, .inl cf2)), (ck3, .inl (cI, 6, .inl cf3)), (ck4, .inl (cI, 6, .inl cf4)), (ck5, .inl (cI, 6, .inl cf5)), (ck6, .inl (cI, 6, .inl cf6)), (ck7, .inl (cI, 6, .inl cf7)), (ck8, .inl (cI, 6, .inl cf8)), (ck9, .inl (cI, 6, .inl cf9))]) [10, 0, 1, 2, 3, 4, 5, 6, 7, 8, 9] rfl
        have hDc := hD.sub (ws' := [(h2, .inr (2, [.int ccnt, .int chrs, .int clw, .int cpv, .int cwk, .int crg, .ref ck0, .ref ck1, .ref ck2, .ref ck3, .ref ck4, .ref ck5, .ref ck6, .ref ck7, .ref ck8, .ref ck9])), (ck0, .inl (cI, 6, .inl cf0)), (ck1, .inl (cI, 6, .inl cf1)), (ck2, .inl (cI, 6, .inl cf2)), (ck3, .inl (cI, 6, .inl cf3)), (ck4, .inl (cI, 6, .inl cf4)), (ck5, .inl (cI, 6, .inl cf5)), (ck6, .inl (cI, 6, .inl cf6)), (ck7, .inl (cI, 6, .inl cf7)), (ck8, .inl (cI, 6, .inl cf8)), (ck9, .inl (cI, 6, .inl cf9))]) [10, 0, 1, 2, 3, 4, 5, 6, 7, 8, 9] (by decide) rfl
        have hFc := va_free (wc := [(h2, .inr (2, [.int ccnt, .int chrs, .int clw, .int cpv, .int cwk, .int crg, .ref ck0, .ref ck1, .ref ck2, .ref ck3, .ref ck4, .ref ck5, .ref ck6, .ref ck7, .ref ck8, .ref ck9])), (ck0, .inl (cI, 6, .inl cf0)), (ck1, .inl (cI, 6, .inl cf1)), (ck2, .inl (cI, 6, .inl cf2)), (ck3, .inl (cI, 6, .inl cf3)), (ck4, .inl (cI, 6, .inl cf4)), (ck5, .inl (cI, 6, .inl cf5)), (ck6, .inl (cI, 6, .inl cf6)), (ck7, .inl (cI, 6, .inl cf7)), (ck8, .inl (cI, 6, .inl cf8)), (ck9, .inl (cI, 6, .inl cf9))]) hD hS hA [10, 0, 1, 2, 3, 4, 5, 6, 7, 8, 9] rfl
        refine vx_callv (wc := [(h2, .inr (2, [.int ccnt, .int chrs, .int clw, .int cpv, .int cwk, .int crg, .ref ck0, .ref ck1, .ref ck2, .ref ck3, .ref ck4, .ref ck5, .ref ck6, .ref ck7, .ref ck8, .ref ck9])), (ck0, .inl (cI, 6, .inl cf0)), (ck1, .inl (cI, 6, .inl cf1)), (ck2, .inl (cI, 6, .inl cf2)), (ck3, .inl (cI, 6, .inl cf3)), (ck4, .inl (cI, 6, .inl cf4)), (ck5, .inl (cI, 6, .inl cf5)), (ck6, .inl (cI, 6, .inl cf6)), (ck7, .inl (cI, 6, .inl cf7)), (ck8, .inl (cI, 6, .inl cf8)), (ck9, .inl (cI, 6, .inl cf9))]) (wr := []) hP hD hS hA [10, 0, 1, 2, 3, 4, 5, 6, 7, 8, 9] [] rfl rfl (by decide) (by decide) (va_runV (As := [.int v1, .int v2]) (rest := []) ⟨hx, hb, hml, hown, hts⟩ (a_changeSeats l dC dI cI cC cZ _ h2 ck0 ck1 ck2 ck3 ck4 ck5 ck6 ck7 ck8 ck9 v1 v2 ccnt chrs clw cpv cwk crg cf0 cf1 cf2 cf3 cf4 cf5 cf6 cf7 cf8 cf9 (show 0 ≤ ccnt.toInt ∧ ccnt.toInt ≤ 6 from ⟨by omega, by omega⟩) (show 1 ≤ chrs.toInt ∧ chrs.toInt ≤ 3 from ⟨by omega, by omega⟩) (show 0 ≤ crg.toInt ∧ crg.toInt ≤ 1 from ⟨by omega, by omega⟩)) (cwV 2 hts gX2_tellChange_X3_changeSeats rfl rfl rfl hv_yX3_changeSeats ⟨Nat.le_of_ble_eq_true rfl, Nat.le_of_ble_eq_true rfl⟩) ⟨vx_blind, va_recv hK hPc (ci := 2) (q0 := 0) rfl rfl, vx_pre hK hPc hDc hN hS hFc⟩ rfl rfl hl.1 rfl (lv_room (Nat.le_of_ble_eq_true rfl)) dX2_tellChange_26 ⟨Nat.le_of_ble_eq_true rfl, Nat.le_of_ble_eq_true rfl⟩) (fun u8 H locs hw10 hP hD hS => ?_)
        have hP : va_P (dC, dI) vwCl [(h2, .inr (2, [.int ccnt, .int chrs, .int clw, .int cpv, .int cwk, .int crg, .ref ck0, .ref ck1, .ref ck2, .ref ck3, .ref ck4, .ref ck5, .ref ck6, .ref ck7, .ref ck8, .ref ck9])), (ck0, .inl (cI, 6, .inl cf0)), (ck1, .inl (cI, 6, .inl cf1)), (ck2, .inl (cI, 6, .inl cf2)), (ck3, .inl (cI, 6, .inl cf3)), (ck4, .inl (cI, 6, .inl cf4)), (ck5, .inl (cI, 6, .inl cf5)), (ck6, .inl (cI, 6, .inl (u8.2 0))), (ck7, .inl (cI, 6, .inl (u8.2 1))), (ck8, .inl (cI, 6, .inl (u8.2 2))), (ck9, .inl (cI, 6, .inl cf9))] H := hP
        have hD : va_D A [(h2, .inr (2, [.int ccnt, .int chrs, .int clw, .int cpv, .int cwk, .int crg, .ref ck0, .ref ck1, .ref ck2, .ref ck3, .ref ck4, .ref ck5, .ref ck6, .ref ck7, .ref ck8, .ref ck9])), (ck0, .inl (cI, 6, .inl cf0)), (ck1, .inl (cI, 6, .inl cf1)), (ck2, .inl (cI, 6, .inl cf2)), (ck3, .inl (cI, 6, .inl cf3)), (ck4, .inl (cI, 6, .inl cf4)), (ck5, .inl (cI, 6, .inl cf5)), (ck6, .inl (cI, 6, .inl (u8.2 0))), (ck7, .inl (cI, 6, .inl (u8.2 1))), (ck8, .inl (cI, 6, .inl (u8.2 2))), (ck9, .inl (cI, 6, .inl cf9))] := hD
        refine lv_iconst (v := 1) hx hb dX2_tellChange_29 (by decide) ?_
        exact vx_zret (u := ((fun k => ([] : List Int32).getD k 0), (fun k => ([(u8.2 0), (u8.2 1), (u8.2 2)] : List (Nat → Int32)).getD k (fun _ => 0)))) hx hb hr rfl hlocks hK hP hD hS [0, 1, 2, 3, 4, 5, 6, 7, 8, 9, 10] rfl (by decide) ⟨(by decide), trivial⟩ dX2_tellChange_30
      · have c7 : v1.toInt = v2.toInt := vy_eq c7
        exact J21 _ _ _ (lv_sub hl [] rfl) (hP.sub [10, 0, 1, 2, 3, 4, 5, 6, 7, 8, 9] rfl) (hD.sub [10, 0, 1, 2, 3, 4, 5, 6, 7, 8, 9] (by decide) rfl) hS
    · subst er5
      refine lv_if_eq (tgt := 21) hx hb dX2_tellChange_13 (by decide) (fun _ => ?_) (fun c0 => absurd (by decide) c0)
      exact J21 _ _ _ (lv_sub hl [] rfl) (hP.sub [10, 0, 1, 2, 3, 4, 5, 6, 7, 8, 9] rfl) (hD.sub [10, 0, 1, 2, 3, 4, 5, 6, 7, 8, 9] (by decide) rfl) hS
  · subst er2
    have J21 : ∀ (H : Heap) (locs : List Loc) (ls : Array Slot), lv_has ls 3 [] → va_P (dC, dI) vwCl [(h2, .inr (2, [.int ccnt, .int chrs, .int clw, .int cpv, .int cwk, .int crg, .ref ck0, .ref ck1, .ref ck2, .ref ck3, .ref ck4, .ref ck5, .ref ck6, .ref ck7, .ref ck8, .ref ck9])), (ck0, .inl (cI, 6, .inl cf0)), (ck1, .inl (cI, 6, .inl cf1)), (ck2, .inl (cI, 6, .inl cf2)), (ck3, .inl (cI, 6, .inl cf3)), (ck4, .inl (cI, 6, .inl cf4)), (ck5, .inl (cI, 6, .inl cf5)), (ck6, .inl (cI, 6, .inl cf6)), (ck7, .inl (cI, 6, .inl cf7)), (ck8, .inl (cI, 6, .inl cf8)), (ck9, .inl (cI, 6, .inl cf9))] H → va_D A [(h2, .inr (2, [.int ccnt, .int chrs, .int clw, .int cpv, .int cwk, .int crg, .ref ck0, .ref ck1, .ref ck2, .ref ck3, .ref ck4, .ref ck5, .ref ck6, .ref ck7, .ref ck8, .ref ck9])), (ck0, .inl (cI, 6, .inl cf0)), (ck1, .inl (cI, 6, .inl cf1)), (ck2, .inl (cI, 6, .inl cf2)), (ck3, .inl (cI, 6, .inl cf3)), (ck4, .inl (cI, 6, .inl cf4)), (ck5, .inl (cI, 6, .inl cf5)), (ck6, .inl (cI, 6, .inl cf6)), (ck7, .inl (cI, 6, .inl cf7)), (ck8, .inl (cI, 6, .inl cf8)), (ck9, .inl (cI, 6, .inl cf9))] → va_S A s.heap H locs → W p l e (headSpec wsX2_tellChange ({ frames := 3, cells := 0, slots := 0, locals := 69 })).room s m ([.ref h2, .int v1, .int v2].toArray) below meth c H locs 0 0 (MQ below (va_Qi (fun (r : Int32) (u : (Nat → Int32) × (Nat → Nat → Int32)) => (0 ≤ r.toInt ∧ r.toInt ≤ 1) ∧ True) (vx_C (dC, dI) (vx_T cI cC cZ) A (fun (u : (Nat → Int32) × (Nat → Nat → Int32)) => [(h2, .inr (2, [.int ccnt, .int chrs, .int clw, .int cpv, .int cwk, .int crg, .ref ck0, .ref ck1, .ref ck2, .ref ck3, .ref ck4, .ref ck5, .ref ck6, .ref ck7, .ref ck8, .ref ck9])), (ck0, .inl (cI, 6, .inl cf0)), (ck1, .inl (cI, 6, .inl cf1)), (ck2, .inl (cI, 6, .inl cf2)), (ck3, .inl (cI, 6, .inl cf3)), (ck4, .inl (cI, 6, .inl cf4)), (ck5, .inl (cI, 6, .inl cf5)), (ck6, .inl (cI, 6, .inl (u.2 0))), (ck7, .inl (cI, 6, .inl (u.2 1))), (ck8, .inl (cI, 6, .inl (u.2 2))), (ck9, .inl (cI, 6, .inl cf9))])) A) ([.ref h2, .int v1, .int v2].toArray) s 0 0 A) (F0 m 21 ls []) := by
      intro  H locs ls hl hP hD hS
      refine lv_iconst (v := 0) hx hb dX2_tellChange_21 (by decide) ?_
      exact vx_zret (u := ((fun k => ([] : List Int32).getD k 0), (fun k => ([cf6, cf7, cf8] : List (Nat → Int32)).getD k (fun _ => 0)))) hx hb hr rfl hlocks hK hP hD hS [0, 1, 2, 3, 4, 5, 6, 7, 8, 9, 10] rfl (by decide) ⟨(by decide), trivial⟩ dX2_tellChange_22
    refine lv_if_eq (tgt := 21) hx hb dX2_tellChange_5 (by decide) (fun _ => ?_) (fun c0 => absurd (by decide) c0)
    exact J21 _ _ _ (lv_sub hl [] rfl) (hP.sub [10, 0, 1, 2, 3, 4, 5, 6, 7, 8, 9] rfl) (hD.sub [10, 0, 1, 2, 3, 4, 5, 6, 7, 8, 9] (by decide) rfl) hS
