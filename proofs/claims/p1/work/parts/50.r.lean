theorem cp_0 (f g : Nat → Int32) : va_cpy f g 0 0 0 = g := by
  funext k
  show (if 0 ≤ k ∧ k < 0 + 0 then f (0 + (k - 0)) else g k) = g k
  rw [if_neg (by omega)]
theorem cp_S (f g : Nat → Int32) (j : Nat) (hj : j < 2147483648) : upd (va_cpy f g 0 0 j) (nI j).toNatClampNeg (f (nI j).toNatClampNeg) = va_cpy f g 0 0 (j + 1) := by
  rw [nI_clamp hj]
  funext k
  by_cases h : k = j
  · subst h
    rw [pk_us]
    show _ = (if 0 ≤ k ∧ k < 0 + (k + 1) then f (0 + (k - 0)) else g k)
    rw [if_pos (by omega)]
    congr 1
    omega
  · rw [pk_un h]
    show (if 0 ≤ k ∧ k < 0 + j then f (0 + (k - 0)) else g k) = (if 0 ≤ k ∧ k < 0 + (j + 1) then f (0 + (k - 0)) else g k)
    by_cases h2 : k < j
    · rw [if_pos (by omega), if_pos (by omega)]
    · rw [if_neg (by omega), if_neg (by omega)]
theorem ag_S (bb : Nat → Int32) (j i : Nat) (hj : j < 2147483648) (hi : i ≤ j) (h : i < j → bb i = 1) : (upd bb (nI j).toNatClampNeg 1) i = 1 := by
  rw [nI_clamp hj]
  by_cases e : i = j
  · subst e
    exact pk_us
  · rw [pk_un e]
    exact h (by omega)
set_option maxHeartbeats 4000000 in
set_option maxRecDepth 100000 in
theorem r_no1 (l : Launch) (dC : Nat → ClassId) (dI : Nat → Nat → Nat) (cI cC cZ : ClassId) (sz : Nat) (h0 r_refused r_now r_then r_before r_asIs r_tape r_begins r_kinds r_field r_willTeach r_isBack r_told r_bestSeats r_firstSeats r_restLearn r_marksNow r_row : Nat) (i_kept i_taped i_at i_well i_sort i_bestPass i_bestAll i_leastAll i_fits i_mayBeForged i_restMany i_restAll i_restMost i_mostAll i_rows i_seed w : Int32) (g : Nat → Int32) (hg : g 1 = w) : Met l yX8_no wsX8_no ({ frames := 0, cells := 0, slots := 0, locals := 0 }) (va_Pc [.ref h0, .int (-1)] (vx_B (dC, dI) (vx_T cI cC cZ) sz [(h0, .inr (6, [.ref r_refused, .ref r_now, .ref r_then, .ref r_before, .ref r_asIs, .int i_kept, .ref r_tape, .int i_taped, .int i_at, .int i_well, .ref r_begins, .ref r_kinds, .int i_sort, .ref r_field, .ref r_willTeach, .ref r_isBack, .ref r_told, .ref r_bestSeats, .ref r_firstSeats, .int i_bestPass, .int i_bestAll, .int i_leastAll, .int i_fits, .int i_mayBeForged, .int i_restMany, .int i_restAll, .int i_restMost, .int i_mostAll, .ref r_restLearn, .ref r_marksNow, .ref r_row, .int i_rows, .int i_seed])), (r_refused, .inl (cI, 7, .inl g))])) (va_Qi (fun (r : Int32) (_ : Unit) => r = (-1)) (vx_C (dC, dI) (vx_T cI cC cZ) (va_A [(h0, .inr (6, [.ref r_refused, .ref r_now, .ref r_then, .ref r_before, .ref r_asIs, .int i_kept, .ref r_tape, .int i_taped, .int i_at, .int i_well, .ref r_begins, .ref r_kinds, .int i_sort, .ref r_field, .ref r_willTeach, .ref r_isBack, .ref r_told, .ref r_bestSeats, .ref r_firstSeats, .int i_bestPass, .int i_bestAll, .int i_leastAll, .int i_fits, .int i_mayBeForged, .int i_restMany, .int i_restAll, .int i_restMost, .int i_mostAll, .ref r_restLearn, .ref r_marksNow, .ref r_row, .int i_rows, .int i_seed])), (r_refused, .inl (cI, 7, .inl g))] sz) (fun (u : Unit) => [(h0, .inr (6, [.ref r_refused, .ref r_now, .ref r_then, .ref r_before, .ref r_asIs, .int i_kept, .ref r_tape, .int i_taped, .int i_at, .int i_well, .ref r_begins, .ref r_kinds, .int i_sort, .ref r_field, .ref r_willTeach, .ref r_isBack, .ref r_told, .ref r_bestSeats, .ref r_firstSeats, .int i_bestPass, .int i_bestAll, .int i_leastAll, .int i_fits, .int i_mayBeForged, .int i_restMany, .int i_restAll, .int i_restMost, .int i_mostAll, .ref r_restLearn, .ref r_marksNow, .ref r_row, .int i_rows, .int i_seed])), (r_refused, .inl (cI, 7, .inl (upd g 1 (w + 1))))])) (va_A [(h0, .inr (6, [.ref r_refused, .ref r_now, .ref r_then, .ref r_before, .ref r_asIs, .int i_kept, .ref r_tape, .int i_taped, .int i_at, .int i_well, .ref r_begins, .ref r_kinds, .int i_sort, .ref r_field, .ref r_willTeach, .ref r_isBack, .ref r_told, .ref r_bestSeats, .ref r_firstSeats, .int i_bestPass, .int i_bestAll, .int i_leastAll, .int i_fits, .int i_mayBeForged, .int i_restMany, .int i_restAll, .int i_restMost, .int i_mostAll, .ref r_restLearn, .ref r_marksNow, .ref r_row, .int i_rows, .int i_seed])), (r_refused, .inl (cI, 7, .inl g))] sz)) 0 0 (va_A [(h0, .inr (6, [.ref r_refused, .ref r_now, .ref r_then, .ref r_before, .ref r_asIs, .int i_kept, .ref r_tape, .int i_taped, .int i_at, .int i_well, .ref r_begins, .ref r_kinds, .int i_sort, .ref r_field, .ref r_willTeach, .ref r_isBack, .ref r_told, .ref r_bestSeats, .ref r_firstSeats, .int i_bestPass, .int i_bestAll, .int i_leastAll, .int i_fits, .int i_mayBeForged, .int i_restMany, .int i_restAll, .int i_restMost, .int i_mostAll, .ref r_restLearn, .ref r_marksNow, .ref r_row, .int i_rows, .int i_seed])), (r_refused, .inl (cI, 7, .inl g))] sz) := by
  refine Met.ofW (cc := cX8_no) (maxL := 2) (ret := (some .int)) (by decide) rfl ?_
  intro p e s m args below meth c s₁ B hml hv
  obtain ⟨rfl, hsz, hP, hK, hD0⟩ := hv
  have hx := B.exec
  have hb := B.bytes
  have hr := B.returns
  have hts := atoms_spec (ws := wsX8_no) B.pre
  have hown : s.vm.findClass RX8 = some m.cls := findClass_of_methodNamed B.named
  have hlocks := B.notSynchronized
  subst hsz
  have hD := hD0.self (sz := s.heap.size)
  generalize hAe : va_A [(h0, .inr (6, [.ref r_refused, .ref r_now, .ref r_then, .ref r_before, .ref r_asIs, .int i_kept, .ref r_tape, .int i_taped, .int i_at, .int i_well, .ref r_begins, .ref r_kinds, .int i_sort, .ref r_field, .ref r_willTeach, .ref r_isBack, .ref r_told, .ref r_bestSeats, .ref r_firstSeats, .int i_bestPass, .int i_bestAll, .int i_leastAll, .int i_fits, .int i_mayBeForged, .int i_restMany, .int i_restAll, .int i_restMost, .int i_mostAll, .ref r_restLearn, .ref r_marksNow, .ref r_row, .int i_rows, .int i_seed])), (r_refused, .inl (cI, 7, .inl g))] s.heap.size = A at hD ⊢
  have hA : ∀ q : Nat, s.heap.size ≤ q → A q := fun q h => by rw [← hAe]; exact Or.inr h
  have hS : va_S A s.heap s.heap [] := va_S.rf
  have hl := lv_entry ([.ref h0, .int (-1)]) (n := 2) (Nat.le_of_ble_eq_true rfl)
  rw [lg_entry_eq]
  generalize (lg_sl ([.ref h0, .int (-1)]) ++ List.replicate (2 - (lg_sl ([.ref h0, .int (-1)])).length) Slot.unset).toArray = ls at hl ⊢
  have hl : lv_has ls 2 [(0, .ref h0), (1, .int (-1))] := hl
  have iX8 : ∀ w ∈ u_ws RX8 TX8 33, w ∈ wsX8_no := by decide +kernel
  refine lv_aload_n hx hb dX8_no_0 rfl (lv_at hl 0 rfl) ?_
  refine va_get (D := (dC, dI)) (ci := 6) (v := .ref r_refused) (C := RX8) (T := TX8) (N := 33) hx hb hts iX8 hown hK hP 0 rfl rfl 0 (by decide) (hts (.fieldLink RX8 1 "NeighboursMarkModel" "refused" "[I") (by decide +kernel)) (fun _ h9 => h9) rfl dX8_no_1 ?_
  refine lv_iload_n hx hb dX8_no_4 rfl (lv_at hl 1 rfl) ?_
  refine lv_ineg hx hb dX8_no_5 ?_
  refine lv_topi (fun x1 ex1 => ?_)
  have ex1 : 1 = x1 := (ex1.trans (by decide)).symm
  subst ex1
  refine lv_dup2_11 hx hb dX8_no_6 rfl rfl ?_
  refine va_iald hx hb hK hP 1 0 rfl rfl (by unfold vp_in; decide) dX8_no_7 ?_
  refine lv_topi (fun x2 ex2 => ?_)
  have ex2 : w = x2 := (ex2.trans hg).symm
  subst ex2
  refine lv_iconst (v := 1) hx hb dX8_no_8 (by decide) ?_
  refine lv_iadd hx hb dX8_no_9 ?_
  refine va_iast hx hb hK hP hD hS 1 0 rfl rfl (by unfold vp_in; decide) dX8_no_10 (fun H locs hP hD hS => ?_)
  have hP : va_P (dC, dI) vwCl [(h0, .inr (6, [.ref r_refused, .ref r_now, .ref r_then, .ref r_before, .ref r_asIs, .int i_kept, .ref r_tape, .int i_taped, .int i_at, .int i_well, .ref r_begins, .ref r_kinds, .int i_sort, .ref r_field, .ref r_willTeach, .ref r_isBack, .ref r_told, .ref r_bestSeats, .ref r_firstSeats, .int i_bestPass, .int i_bestAll, .int i_leastAll, .int i_fits, .int i_mayBeForged, .int i_restMany, .int i_restAll, .int i_restMost, .int i_mostAll, .ref r_restLearn, .ref r_marksNow, .ref r_row, .int i_rows, .int i_seed])), (r_refused, .inl (cI, 7, .inl (upd g 1 (w + 1))))] H := hP
  have hD : va_D A [(h0, .inr (6, [.ref r_refused, .ref r_now, .ref r_then, .ref r_before, .ref r_asIs, .int i_kept, .ref r_tape, .int i_taped, .int i_at, .int i_well, .ref r_begins, .ref r_kinds, .int i_sort, .ref r_field, .ref r_willTeach, .ref r_isBack, .ref r_told, .ref r_bestSeats, .ref r_firstSeats, .int i_bestPass, .int i_bestAll, .int i_leastAll, .int i_fits, .int i_mayBeForged, .int i_restMany, .int i_restAll, .int i_restMost, .int i_mostAll, .ref r_restLearn, .ref r_marksNow, .ref r_row, .int i_rows, .int i_seed])), (r_refused, .inl (cI, 7, .inl (upd g 1 (w + 1))))] := hD
  refine lv_iload_n hx hb dX8_no_11 rfl (lv_at hl 1 rfl) ?_
  exact vx_iret (u := ()) hx hb hr hlocks hK hP hD hS [0, 1] rfl (by decide) rfl dX8_no_12
set_option maxHeartbeats 4000000 in
set_option maxRecDepth 100000 in
theorem r_no2 (l : Launch) (dC : Nat → ClassId) (dI : Nat → Nat → Nat) (cI cC cZ : ClassId) (sz : Nat) (h0 r_refused r_now r_then r_before r_asIs r_tape r_begins r_kinds r_field r_willTeach r_isBack r_told r_bestSeats r_firstSeats r_restLearn r_marksNow r_row : Nat) (i_kept i_taped i_at i_well i_sort i_bestPass i_bestAll i_leastAll i_fits i_mayBeForged i_restMany i_restAll i_restMost i_mostAll i_rows i_seed w : Int32) (g : Nat → Int32) (hg : g 2 = w) : Met l yX8_no wsX8_no ({ frames := 0, cells := 0, slots := 0, locals := 0 }) (va_Pc [.ref h0, .int (-2)] (vx_B (dC, dI) (vx_T cI cC cZ) sz [(h0, .inr (6, [.ref r_refused, .ref r_now, .ref r_then, .ref r_before, .ref r_asIs, .int i_kept, .ref r_tape, .int i_taped, .int i_at, .int i_well, .ref r_begins, .ref r_kinds, .int i_sort, .ref r_field, .ref r_willTeach, .ref r_isBack, .ref r_told, .ref r_bestSeats, .ref r_firstSeats, .int i_bestPass, .int i_bestAll, .int i_leastAll, .int i_fits, .int i_mayBeForged, .int i_restMany, .int i_restAll, .int i_restMost, .int i_mostAll, .ref r_restLearn, .ref r_marksNow, .ref r_row, .int i_rows, .int i_seed])), (r_refused, .inl (cI, 7, .inl g))])) (va_Qi (fun (r : Int32) (_ : Unit) => r = (-2)) (vx_C (dC, dI) (vx_T cI cC cZ) (va_A [(h0, .inr (6, [.ref r_refused, .ref r_now, .ref r_then, .ref r_before, .ref r_asIs, .int i_kept, .ref r_tape, .int i_taped, .int i_at, .int i_well, .ref r_begins, .ref r_kinds, .int i_sort, .ref r_field, .ref r_willTeach, .ref r_isBack, .ref r_told, .ref r_bestSeats, .ref r_firstSeats, .int i_bestPass, .int i_bestAll, .int i_leastAll, .int i_fits, .int i_mayBeForged, .int i_restMany, .int i_restAll, .int i_restMost, .int i_mostAll, .ref r_restLearn, .ref r_marksNow, .ref r_row, .int i_rows, .int i_seed])), (r_refused, .inl (cI, 7, .inl g))] sz) (fun (u : Unit) => [(h0, .inr (6, [.ref r_refused, .ref r_now, .ref r_then, .ref r_before, .ref r_asIs, .int i_kept, .ref r_tape, .int i_taped, .int i_at, .int i_well, .ref r_begins, .ref r_kinds, .int i_sort, .ref r_field, .ref r_willTeach, .ref r_isBack, .ref r_told, .ref r_bestSeats, .ref r_firstSeats, .int i_bestPass, .int i_bestAll, .int i_leastAll, .int i_fits, .int i_mayBeForged, .int i_restMany, .int i_restAll, .int i_restMost, .int i_mostAll, .ref r_restLearn, .ref r_marksNow, .ref r_row, .int i_rows, .int i_seed])), (r_refused, .inl (cI, 7, .inl (upd g 2 (w + 1))))])) (va_A [(h0, .inr (6, [.ref r_refused, .ref r_now, .ref r_then, .ref r_before, .ref r_asIs, .int i_kept, .ref r_tape, .int i_taped, .int i_at, .int i_well, .ref r_begins, .ref r_kinds, .int i_sort, .ref r_field, .ref r_willTeach, .ref r_isBack, .ref r_told, .ref r_bestSeats, .ref r_firstSeats, .int i_bestPass, .int i_bestAll, .int i_leastAll, .int i_fits, .int i_mayBeForged, .int i_restMany, .int i_restAll, .int i_restMost, .int i_mostAll, .ref r_restLearn, .ref r_marksNow, .ref r_row, .int i_rows, .int i_seed])), (r_refused, .inl (cI, 7, .inl g))] sz)) 0 0 (va_A [(h0, .inr (6, [.ref r_refused, .ref r_now, .ref r_then, .ref r_before, .ref r_asIs, .int i_kept, .ref r_tape, .int i_taped, .int i_at, .int i_well, .ref r_begins, .ref r_kinds, .int i_sort, .ref r_field, .ref r_willTeach, .ref r_isBack, .ref r_told, .ref r_bestSeats, .ref r_firstSeats, .int i_bestPass, .int i_bestAll, .int i_leastAll, .int i_fits, .int i_mayBeForged, .int i_restMany, .int i_restAll, .int i_restMost, .int i_mostAll, .ref r_restLearn, .ref r_marksNow, .ref r_row, .int i_rows, .int i_seed])), (r_refused, .inl (cI, 7, .inl g))] sz) := by
  refine Met.ofW (cc := cX8_no) (maxL := 2) (ret := (some .int)) (by decide) rfl ?_
  intro p e s m args below meth c s₁ B hml hv
  obtain ⟨rfl, hsz, hP, hK, hD0⟩ := hv
  have hx := B.exec
  have hb := B.bytes
  have hr := B.returns
  have hts := atoms_spec (ws := wsX8_no) B.pre
  have hown : s.vm.findClass RX8 = some m.cls := findClass_of_methodNamed B.named
  have hlocks := B.notSynchronized
  subst hsz
  have hD := hD0.self (sz := s.heap.size)
  generalize hAe : va_A [(h0, .inr (6, [.ref r_refused, .ref r_now, .ref r_then, .ref r_before, .ref r_asIs, .int i_kept, .ref r_tape, .int i_taped, .int i_at, .int i_well, .ref r_begins, .ref r_kinds, .int i_sort, .ref r_field, .ref r_willTeach, .ref r_isBack, .ref r_told, .ref r_bestSeats, .ref r_firstSeats, .int i_bestPass, .int i_bestAll, .int i_leastAll, .int i_fits, .int i_mayBeForged, .int i_restMany, .int i_restAll, .int i_restMost, .int i_mostAll, .ref r_restLearn, .ref r_marksNow, .ref r_row, .int i_rows, .int i_seed])), (r_refused, .inl (cI, 7, .inl g))] s.heap.size = A at hD ⊢
  have hA : ∀ q : Nat, s.heap.size ≤ q → A q := fun q h => by rw [← hAe]; exact Or.inr h
  have hS : va_S A s.heap s.heap [] := va_S.rf
  have hl := lv_entry ([.ref h0, .int (-2)]) (n := 2) (Nat.le_of_ble_eq_true rfl)
  rw [lg_entry_eq]
  generalize (lg_sl ([.ref h0, .int (-2)]) ++ List.replicate (2 - (lg_sl ([.ref h0, .int (-2)])).length) Slot.unset).toArray = ls at hl ⊢
  have hl : lv_has ls 2 [(0, .ref h0), (1, .int (-2))] := hl
  have iX8 : ∀ w ∈ u_ws RX8 TX8 33, w ∈ wsX8_no := by decide +kernel
  refine lv_aload_n hx hb dX8_no_0 rfl (lv_at hl 0 rfl) ?_
  refine va_get (D := (dC, dI)) (ci := 6) (v := .ref r_refused) (C := RX8) (T := TX8) (N := 33) hx hb hts iX8 hown hK hP 0 rfl rfl 0 (by decide) (hts (.fieldLink RX8 1 "NeighboursMarkModel" "refused" "[I") (by decide +kernel)) (fun _ h9 => h9) rfl dX8_no_1 ?_
  refine lv_iload_n hx hb dX8_no_4 rfl (lv_at hl 1 rfl) ?_
  refine lv_ineg hx hb dX8_no_5 ?_
  refine lv_topi (fun x1 ex1 => ?_)
  have ex1 : 2 = x1 := (ex1.trans (by decide)).symm
  subst ex1
  refine lv_dup2_11 hx hb dX8_no_6 rfl rfl ?_
  refine va_iald hx hb hK hP 1 0 rfl rfl (by unfold vp_in; decide) dX8_no_7 ?_
  refine lv_topi (fun x2 ex2 => ?_)
  have ex2 : w = x2 := (ex2.trans hg).symm
  subst ex2
  refine lv_iconst (v := 1) hx hb dX8_no_8 (by decide) ?_
  refine lv_iadd hx hb dX8_no_9 ?_
  refine va_iast hx hb hK hP hD hS 1 0 rfl rfl (by unfold vp_in; decide) dX8_no_10 (fun H locs hP hD hS => ?_)
  have hP : va_P (dC, dI) vwCl [(h0, .inr (6, [.ref r_refused, .ref r_now, .ref r_then, .ref r_before, .ref r_asIs, .int i_kept, .ref r_tape, .int i_taped, .int i_at, .int i_well, .ref r_begins, .ref r_kinds, .int i_sort, .ref r_field, .ref r_willTeach, .ref r_isBack, .ref r_told, .ref r_bestSeats, .ref r_firstSeats, .int i_bestPass, .int i_bestAll, .int i_leastAll, .int i_fits, .int i_mayBeForged, .int i_restMany, .int i_restAll, .int i_restMost, .int i_mostAll, .ref r_restLearn, .ref r_marksNow, .ref r_row, .int i_rows, .int i_seed])), (r_refused, .inl (cI, 7, .inl (upd g 2 (w + 1))))] H := hP
  have hD : va_D A [(h0, .inr (6, [.ref r_refused, .ref r_now, .ref r_then, .ref r_before, .ref r_asIs, .int i_kept, .ref r_tape, .int i_taped, .int i_at, .int i_well, .ref r_begins, .ref r_kinds, .int i_sort, .ref r_field, .ref r_willTeach, .ref r_isBack, .ref r_told, .ref r_bestSeats, .ref r_firstSeats, .int i_bestPass, .int i_bestAll, .int i_leastAll, .int i_fits, .int i_mayBeForged, .int i_restMany, .int i_restAll, .int i_restMost, .int i_mostAll, .ref r_restLearn, .ref r_marksNow, .ref r_row, .int i_rows, .int i_seed])), (r_refused, .inl (cI, 7, .inl (upd g 2 (w + 1))))] := hD
  refine lv_iload_n hx hb dX8_no_11 rfl (lv_at hl 1 rfl) ?_
  exact vx_iret (u := ()) hx hb hr hlocks hK hP hD hS [0, 1] rfl (by decide) rfl dX8_no_12
set_option maxHeartbeats 4000000 in
set_option maxRecDepth 100000 in
theorem r_no3 (l : Launch) (dC : Nat → ClassId) (dI : Nat → Nat → Nat) (cI cC cZ : ClassId) (sz : Nat) (h0 r_refused r_now r_then r_before r_asIs r_tape r_begins r_kinds r_field r_willTeach r_isBack r_told r_bestSeats r_firstSeats r_restLearn r_marksNow r_row : Nat) (i_kept i_taped i_at i_well i_sort i_bestPass i_bestAll i_leastAll i_fits i_mayBeForged i_restMany i_restAll i_restMost i_mostAll i_rows i_seed w : Int32) (g : Nat → Int32) (hg : g 3 = w) : Met l yX8_no wsX8_no ({ frames := 0, cells := 0, slots := 0, locals := 0 }) (va_Pc [.ref h0, .int (-3)] (vx_B (dC, dI) (vx_T cI cC cZ) sz [(h0, .inr (6, [.ref r_refused, .ref r_now, .ref r_then, .ref r_before, .ref r_asIs, .int i_kept, .ref r_tape, .int i_taped, .int i_at, .int i_well, .ref r_begins, .ref r_kinds, .int i_sort, .ref r_field, .ref r_willTeach, .ref r_isBack, .ref r_told, .ref r_bestSeats, .ref r_firstSeats, .int i_bestPass, .int i_bestAll, .int i_leastAll, .int i_fits, .int i_mayBeForged, .int i_restMany, .int i_restAll, .int i_restMost, .int i_mostAll, .ref r_restLearn, .ref r_marksNow, .ref r_row, .int i_rows, .int i_seed])), (r_refused, .inl (cI, 7, .inl g))])) (va_Qi (fun (r : Int32) (_ : Unit) => r = (-3)) (vx_C (dC, dI) (vx_T cI cC cZ) (va_A [(h0, .inr (6, [.ref r_refused, .ref r_now, .ref r_then, .ref r_before, .ref r_asIs, .int i_kept, .ref r_tape, .int i_taped, .int i_at, .int i_well, .ref r_begins, .ref r_kinds, .int i_sort, .ref r_field, .ref r_willTeach, .ref r_isBack, .ref r_told, .ref r_bestSeats, .ref r_firstSeats, .int i_bestPass, .int i_bestAll, .int i_leastAll, .int i_fits, .int i_mayBeForged, .int i_restMany, .int i_restAll, .int i_restMost, .int i_mostAll, .ref r_restLearn, .ref r_marksNow, .ref r_row, .int i_rows, .int i_seed])), (r_refused, .inl (cI, 7, .inl g))] sz) (fun (u : Unit) => [(h0, .inr (6, [.ref r_refused, .ref r_now, .ref r_then, .ref r_before, .ref r_asIs, .int i_kept, .ref r_tape, .int i_taped, .int i_at, .int i_well, .ref r_begins, .ref r_kinds, .int i_sort, .ref r_field, .ref r_willTeach, .ref r_isBack, .ref r_told, .ref r_bestSeats, .ref r_firstSeats, .int i_bestPass, .int i_bestAll, .int i_leastAll, .int i_fits, .int i_mayBeForged, .int i_restMany, .int i_restAll, .int i_restMost, .int i_mostAll, .ref r_restLearn, .ref r_marksNow, .ref r_row, .int i_rows, .int i_seed])), (r_refused, .inl (cI, 7, .inl (upd g 3 (w + 1))))])) (va_A [(h0, .inr (6, [.ref r_refused, .ref r_now, .ref r_then, .ref r_before, .ref r_asIs, .int i_kept, .ref r_tape, .int i_taped, .int i_at, .int i_well, .ref r_begins, .ref r_kinds, .int i_sort, .ref r_field, .ref r_willTeach, .ref r_isBack, .ref r_told, .ref r_bestSeats, .ref r_firstSeats, .int i_bestPass, .int i_bestAll, .int i_leastAll, .int i_fits, .int i_mayBeForged, .int i_restMany, .int i_restAll, .int i_restMost, .int i_mostAll, .ref r_restLearn, .ref r_marksNow, .ref r_row, .int i_rows, .int i_seed])), (r_refused, .inl (cI, 7, .inl g))] sz)) 0 0 (va_A [(h0, .inr (6, [.ref r_refused, .ref r_now, .ref r_then, .ref r_before, .ref r_asIs, .int i_kept, .ref r_tape, .int i_taped, .int i_at, .int i_well, .ref r_begins, .ref r_kinds, .int i_sort, .ref r_field, .ref r_willTeach, .ref r_isBack, .ref r_told, .ref r_bestSeats, .ref r_firstSeats, .int i_bestPass, .int i_bestAll, .int i_leastAll, .int i_fits, .int i_mayBeForged, .int i_restMany, .int i_restAll, .int i_restMost, .int i_mostAll, .ref r_restLearn, .ref r_marksNow, .ref r_row, .int i_rows, .int i_seed])), (r_refused, .inl (cI, 7, .inl g))] sz) := by
  refine Met.ofW (cc := cX8_no) (maxL := 2) (ret := (some .int)) (by decide) rfl ?_
  intro p e s m args below meth c s₁ B hml hv
  obtain ⟨rfl, hsz, hP, hK, hD0⟩ := hv
  have hx := B.exec
  have hb := B.bytes
  have hr := B.returns
  have hts := atoms_spec (ws := wsX8_no) B.pre
  have hown : s.vm.findClass RX8 = some m.cls := findClass_of_methodNamed B.named
  have hlocks := B.notSynchronized
  subst hsz
  have hD := hD0.self (sz := s.heap.size)
  generalize hAe : va_A [(h0, .inr (6, [.ref r_refused, .ref r_now, .ref r_then, .ref r_before, .ref r_asIs, .int i_kept, .ref r_tape, .int i_taped, .int i_at, .int i_well, .ref r_begins, .ref r_kinds, .int i_sort, .ref r_field, .ref r_willTeach, .ref r_isBack, .ref r_told, .ref r_bestSeats, .ref r_firstSeats, .int i_bestPass, .int i_bestAll, .int i_leastAll, .int i_fits, .int i_mayBeForged, .int i_restMany, .int i_restAll, .int i_restMost, .int i_mostAll, .ref r_restLearn, .ref r_marksNow, .ref r_row, .int i_rows, .int i_seed])), (r_refused, .inl (cI, 7, .inl g))] s.heap.size = A at hD ⊢
  have hA : ∀ q : Nat, s.heap.size ≤ q → A q := fun q h => by rw [← hAe]; exact Or.inr h
  have hS : va_S A s.heap s.heap [] := va_S.rf
  have hl := lv_entry ([.ref h0, .int (-3)]) (n := 2) (Nat.le_of_ble_eq_true rfl)
  rw [lg_entry_eq]
  generalize (lg_sl ([.ref h0, .int (-3)]) ++ List.replicate (2 - (lg_sl ([.ref h0, .int (-3)])).length) Slot.unset).toArray = ls at hl ⊢
  have hl : lv_has ls 2 [(0, .ref h0), (1, .int (-3))] := hl
  have iX8 : ∀ w ∈ u_ws RX8 TX8 33, w ∈ wsX8_no := by decide +kernel
  refine lv_aload_n hx hb dX8_no_0 rfl (lv_at hl 0 rfl) ?_
  refine va_get (D := (dC, dI)) (ci := 6) (v := .ref r_refused) (C := RX8) (T := TX8) (N := 33) hx hb hts iX8 hown hK hP 0 rfl rfl 0 (by decide) (hts (.fieldLink RX8 1 "NeighboursMarkModel" "refused" "[I") (by decide +kernel)) (fun _ h9 => h9) rfl dX8_no_1 ?_
  refine lv_iload_n hx hb dX8_no_4 rfl (lv_at hl 1 rfl) ?_
  refine lv_ineg hx hb dX8_no_5 ?_
  refine lv_topi (fun x1 ex1 => ?_)
  have ex1 : 3 = x1 := (ex1.trans (by decide)).symm
  subst ex1
  refine lv_dup2_11 hx hb dX8_no_6 rfl rfl ?_
  refine va_iald hx hb hK hP 1 0 rfl rfl (by unfold vp_in; decide) dX8_no_7 ?_
  refine lv_topi (fun x2 ex2 => ?_)
  have ex2 : w = x2 := (ex2.trans hg).symm
  subst ex2
  refine lv_iconst (v := 1) hx hb dX8_no_8 (by decide) ?_
  refine lv_iadd hx hb dX8_no_9 ?_
  refine va_iast hx hb hK hP hD hS 1 0 rfl rfl (by unfold vp_in; decide) dX8_no_10 (fun H locs hP hD hS => ?_)
  have hP : va_P (dC, dI) vwCl [(h0, .inr (6, [.ref r_refused, .ref r_now, .ref r_then, .ref r_before, .ref r_asIs, .int i_kept, .ref r_tape, .int i_taped, .int i_at, .int i_well, .ref r_begins, .ref r_kinds, .int i_sort, .ref r_field, .ref r_willTeach, .ref r_isBack, .ref r_told, .ref r_bestSeats, .ref r_firstSeats, .int i_bestPass, .int i_bestAll, .int i_leastAll, .int i_fits, .int i_mayBeForged, .int i_restMany, .int i_restAll, .int i_restMost, .int i_mostAll, .ref r_restLearn, .ref r_marksNow, .ref r_row, .int i_rows, .int i_seed])), (r_refused, .inl (cI, 7, .inl (upd g 3 (w + 1))))] H := hP
  have hD : va_D A [(h0, .inr (6, [.ref r_refused, .ref r_now, .ref r_then, .ref r_before, .ref r_asIs, .int i_kept, .ref r_tape, .int i_taped, .int i_at, .int i_well, .ref r_begins, .ref r_kinds, .int i_sort, .ref r_field, .ref r_willTeach, .ref r_isBack, .ref r_told, .ref r_bestSeats, .ref r_firstSeats, .int i_bestPass, .int i_bestAll, .int i_leastAll, .int i_fits, .int i_mayBeForged, .int i_restMany, .int i_restAll, .int i_restMost, .int i_mostAll, .ref r_restLearn, .ref r_marksNow, .ref r_row, .int i_rows, .int i_seed])), (r_refused, .inl (cI, 7, .inl (upd g 3 (w + 1))))] := hD
  refine lv_iload_n hx hb dX8_no_11 rfl (lv_at hl 1 rfl) ?_
  exact vx_iret (u := ()) hx hb hr hlocks hK hP hD hS [0, 1] rfl (by decide) rfl dX8_no_12
set_option maxHeartbeats 4000000 in
set_option maxRecDepth 100000 in
theorem r_no4 (l : Launch) (dC : Nat → ClassId) (dI : Nat → Nat → Nat) (cI cC cZ : ClassId) (sz : Nat) (h0 r_refused r_now r_then r_before r_asIs r_tape r_begins r_kinds r_field r_willTeach r_isBack r_told r_bestSeats r_firstSeats r_restLearn r_marksNow r_row : Nat) (i_kept i_taped i_at i_well i_sort i_bestPass i_bestAll i_leastAll i_fits i_mayBeForged i_restMany i_restAll i_restMost i_mostAll i_rows i_seed w : Int32) (g : Nat → Int32) (hg : g 4 = w) : Met l yX8_no wsX8_no ({ frames := 0, cells := 0, slots := 0, locals := 0 }) (va_Pc [.ref h0, .int (-4)] (vx_B (dC, dI) (vx_T cI cC cZ) sz [(h0, .inr (6, [.ref r_refused, .ref r_now, .ref r_then, .ref r_before, .ref r_asIs, .int i_kept, .ref r_tape, .int i_taped, .int i_at, .int i_well, .ref r_begins, .ref r_kinds, .int i_sort, .ref r_field, .ref r_willTeach, .ref r_isBack, .ref r_told, .ref r_bestSeats, .ref r_firstSeats, .int i_bestPass, .int i_bestAll, .int i_leastAll, .int i_fits, .int i_mayBeForged, .int i_restMany, .int i_restAll, .int i_restMost, .int i_mostAll, .ref r_restLearn, .ref r_marksNow, .ref r_row, .int i_rows, .int i_seed])), (r_refused, .inl (cI, 7, .inl g))])) (va_Qi (fun (r : Int32) (_ : Unit) => r = (-4)) (vx_C (dC, dI) (vx_T cI cC cZ) (va_A [(h0, .inr (6, [.ref r_refused, .ref r_now, .ref r_then, .ref r_before, .ref r_asIs, .int i_kept, .ref r_tape, .int i_taped, .int i_at, .int i_well, .ref r_begins, .ref r_kinds, .int i_sort, .ref r_field, .ref r_willTeach, .ref r_isBack, .ref r_told, .ref r_bestSeats, .ref r_firstSeats, .int i_bestPass, .int i_bestAll, .int i_leastAll, .int i_fits, .int i_mayBeForged, .int i_restMany, .int i_restAll, .int i_restMost, .int i_mostAll, .ref r_restLearn, .ref r_marksNow, .ref r_row, .int i_rows, .int i_seed])), (r_refused, .inl (cI, 7, .inl g))] sz) (fun (u : Unit) => [(h0, .inr (6, [.ref r_refused, .ref r_now, .ref r_then, .ref r_before, .ref r_asIs, .int i_kept, .ref r_tape, .int i_taped, .int i_at, .int i_well, .ref r_begins, .ref r_kinds, .int i_sort, .ref r_field, .ref r_willTeach, .ref r_isBack, .ref r_told, .ref r_bestSeats, .ref r_firstSeats, .int i_bestPass, .int i_bestAll, .int i_leastAll, .int i_fits, .int i_mayBeForged, .int i_restMany, .int i_restAll, .int i_restMost, .int i_mostAll, .ref r_restLearn, .ref r_marksNow, .ref r_row, .int i_rows, .int i_seed])), (r_refused, .inl (cI, 7, .inl (upd g 4 (w + 1))))])) (va_A [(h0, .inr (6, [.ref r_refused, .ref r_now, .ref r_then, .ref r_before, .ref r_asIs, .int i_kept, .ref r_tape, .int i_taped, .int i_at, .int i_well, .ref r_begins, .ref r_kinds, .int i_sort, .ref r_field, .ref r_willTeach, .ref r_isBack, .ref r_told, .ref r_bestSeats, .ref r_firstSeats, .int i_bestPass, .int i_bestAll, .int i_leastAll, .int i_fits, .int i_mayBeForged, .int i_restMany, .int i_restAll, .int i_restMost, .int i_mostAll, .ref r_restLearn, .ref r_marksNow, .ref r_row, .int i_rows, .int i_seed])), (r_refused, .inl (cI, 7, .inl g))] sz)) 0 0 (va_A [(h0, .inr (6, [.ref r_refused, .ref r_now, .ref r_then, .ref r_before, .ref r_asIs, .int i_kept, .ref r_tape, .int i_taped, .int i_at, .int i_well, .ref r_begins, .ref r_kinds, .int i_sort, .ref r_field, .ref r_willTeach, .ref r_isBack, .ref r_told, .ref r_bestSeats, .ref r_firstSeats, .int i_bestPass, .int i_bestAll, .int i_leastAll, .int i_fits, .int i_mayBeForged, .int i_restMany, .int i_restAll, .int i_restMost, .int i_mostAll, .ref r_restLearn, .ref r_marksNow, .ref r_row, .int i_rows, .int i_seed])), (r_refused, .inl (cI, 7, .inl g))] sz) := by
  refine Met.ofW (cc := cX8_no) (maxL := 2) (ret := (some .int)) (by decide) rfl ?_
  intro p e s m args below meth c s₁ B hml hv
  obtain ⟨rfl, hsz, hP, hK, hD0⟩ := hv
  have hx := B.exec
  have hb := B.bytes
  have hr := B.returns
  have hts := atoms_spec (ws := wsX8_no) B.pre
  have hown : s.vm.findClass RX8 = some m.cls := findClass_of_methodNamed B.named
  have hlocks := B.notSynchronized
  subst hsz
  have hD := hD0.self (sz := s.heap.size)
  generalize hAe : va_A [(h0, .inr (6, [.ref r_refused, .ref r_now, .ref r_then, .ref r_before, .ref r_asIs, .int i_kept, .ref r_tape, .int i_taped, .int i_at, .int i_well, .ref r_begins, .ref r_kinds, .int i_sort, .ref r_field, .ref r_willTeach, .ref r_isBack, .ref r_told, .ref r_bestSeats, .ref r_firstSeats, .int i_bestPass, .int i_bestAll, .int i_leastAll, .int i_fits, .int i_mayBeForged, .int i_restMany, .int i_restAll, .int i_restMost, .int i_mostAll, .ref r_restLearn, .ref r_marksNow, .ref r_row, .int i_rows, .int i_seed])), (r_refused, .inl (cI, 7, .inl g))] s.heap.size = A at hD ⊢
  have hA : ∀ q : Nat, s.heap.size ≤ q → A q := fun q h => by rw [← hAe]; exact Or.inr h
  have hS : va_S A s.heap s.heap [] := va_S.rf
  have hl := lv_entry ([.ref h0, .int (-4)]) (n := 2) (Nat.le_of_ble_eq_true rfl)
  rw [lg_entry_eq]
  generalize (lg_sl ([.ref h0, .int (-4)]) ++ List.replicate (2 - (lg_sl ([.ref h0, .int (-4)])).length) Slot.unset).toArray = ls at hl ⊢
  have hl : lv_has ls 2 [(0, .ref h0), (1, .int (-4))] := hl
  have iX8 : ∀ w ∈ u_ws RX8 TX8 33, w ∈ wsX8_no := by decide +kernel
  refine lv_aload_n hx hb dX8_no_0 rfl (lv_at hl 0 rfl) ?_
  refine va_get (D := (dC, dI)) (ci := 6) (v := .ref r_refused) (C := RX8) (T := TX8) (N := 33) hx hb hts iX8 hown hK hP 0 rfl rfl 0 (by decide) (hts (.fieldLink RX8 1 "NeighboursMarkModel" "refused" "[I") (by decide +kernel)) (fun _ h9 => h9) rfl dX8_no_1 ?_
  refine lv_iload_n hx hb dX8_no_4 rfl (lv_at hl 1 rfl) ?_
  refine lv_ineg hx hb dX8_no_5 ?_
  refine lv_topi (fun x1 ex1 => ?_)
  have ex1 : 4 = x1 := (ex1.trans (by decide)).symm
  subst ex1
  refine lv_dup2_11 hx hb dX8_no_6 rfl rfl ?_
  refine va_iald hx hb hK hP 1 0 rfl rfl (by unfold vp_in; decide) dX8_no_7 ?_
  refine lv_topi (fun x2 ex2 => ?_)
  have ex2 : w = x2 := (ex2.trans hg).symm
  subst ex2
  refine lv_iconst (v := 1) hx hb dX8_no_8 (by decide) ?_
  refine lv_iadd hx hb dX8_no_9 ?_
  refine va_iast hx hb hK hP hD hS 1 0 rfl rfl (by unfold vp_in; decide) dX8_no_10 (fun H locs hP hD hS => ?_)
  have hP : va_P (dC, dI) vwCl [(h0, .inr (6, [.ref r_refused, .ref r_now, .ref r_then, .ref r_before, .ref r_asIs, .int i_kept, .ref r_tape, .int i_taped, .int i_at, .int i_well, .ref r_begins, .ref r_kinds, .int i_sort, .ref r_field, .ref r_willTeach, .ref r_isBack, .ref r_told, .ref r_bestSeats, .ref r_firstSeats, .int i_bestPass, .int i_bestAll, .int i_leastAll, .int i_fits, .int i_mayBeForged, .int i_restMany, .int i_restAll, .int i_restMost, .int i_mostAll, .ref r_restLearn, .ref r_marksNow, .ref r_row, .int i_rows, .int i_seed])), (r_refused, .inl (cI, 7, .inl (upd g 4 (w + 1))))] H := hP
  have hD : va_D A [(h0, .inr (6, [.ref r_refused, .ref r_now, .ref r_then, .ref r_before, .ref r_asIs, .int i_kept, .ref r_tape, .int i_taped, .int i_at, .int i_well, .ref r_begins, .ref r_kinds, .int i_sort, .ref r_field, .ref r_willTeach, .ref r_isBack, .ref r_told, .ref r_bestSeats, .ref r_firstSeats, .int i_bestPass, .int i_bestAll, .int i_leastAll, .int i_fits, .int i_mayBeForged, .int i_restMany, .int i_restAll, .int i_restMost, .int i_mostAll, .ref r_restLearn, .ref r_marksNow, .ref r_row, .int i_rows, .int i_seed])), (r_refused, .inl (cI, 7, .inl (upd g 4 (w + 1))))] := hD
  refine lv_iload_n hx hb dX8_no_11 rfl (lv_at hl 1 rfl) ?_
  exact vx_iret (u := ()) hx hb hr hlocks hK hP hD hS [0, 1] rfl (by decide) rfl dX8_no_12
set_option maxHeartbeats 4000000 in
set_option maxRecDepth 100000 in
theorem r_no6 (l : Launch) (dC : Nat → ClassId) (dI : Nat → Nat → Nat) (cI cC cZ : ClassId) (sz : Nat) (h0 r_refused r_now r_then r_before r_asIs r_tape r_begins r_kinds r_field r_willTeach r_isBack r_told r_bestSeats r_firstSeats r_restLearn r_marksNow r_row : Nat) (i_kept i_taped i_at i_well i_sort i_bestPass i_bestAll i_leastAll i_fits i_mayBeForged i_restMany i_restAll i_restMost i_mostAll i_rows i_seed w : Int32) (g : Nat → Int32) (hg : g 6 = w) : Met l yX8_no wsX8_no ({ frames := 0, cells := 0, slots := 0, locals := 0 }) (va_Pc [.ref h0, .int (-6)] (vx_B (dC, dI) (vx_T cI cC cZ) sz [(h0, .inr (6, [.ref r_refused, .ref r_now, .ref r_then, .ref r_before, .ref r_asIs, .int i_kept, .ref r_tape, .int i_taped, .int i_at, .int i_well, .ref r_begins, .ref r_kinds, .int i_sort, .ref r_field, .ref r_willTeach, .ref r_isBack, .ref r_told, .ref r_bestSeats, .ref r_firstSeats, .int i_bestPass, .int i_bestAll, .int i_leastAll, .int i_fits, .int i_mayBeForged, .int i_restMany, .int i_restAll, .int i_restMost, .int i_mostAll, .ref r_restLearn, .ref r_marksNow, .ref r_row, .int i_rows, .int i_seed])), (r_refused, .inl (cI, 7, .inl g))])) (va_Qi (fun (r : Int32) (_ : Unit) => r = (-6)) (vx_C (dC, dI) (vx_T cI cC cZ) (va_A [(h0, .inr (6, [.ref r_refused, .ref r_now, .ref r_then, .ref r_before, .ref r_asIs, .int i_kept, .ref r_tape, .int i_taped, .int i_at, .int i_well, .ref r_begins, .ref r_kinds, .int i_sort, .ref r_field, .ref r_willTeach, .ref r_isBack, .ref r_told, .ref r_bestSeats, .ref r_firstSeats, .int i_bestPass, .int i_bestAll, .int i_leastAll, .int i_fits, .int i_mayBeForged, .int i_restMany, .int i_restAll, .int i_restMost, .int i_mostAll, .ref r_restLearn, .ref r_marksNow, .ref r_row, .int i_rows, .int i_seed])), (r_refused, .inl (cI, 7, .inl g))] sz) (fun (u : Unit) => [(h0, .inr (6, [.ref r_refused, .ref r_now, .ref r_then, .ref r_before, .ref r_asIs, .int i_kept, .ref r_tape, .int i_taped, .int i_at, .int i_well, .ref r_begins, .ref r_kinds, .int i_sort, .ref r_field, .ref r_willTeach, .ref r_isBack, .ref r_told, .ref r_bestSeats, .ref r_firstSeats, .int i_bestPass, .int i_bestAll, .int i_leastAll, .int i_fits, .int i_mayBeForged, .int i_restMany, .int i_restAll, .int i_restMost, .int i_mostAll, .ref r_restLearn, .ref r_marksNow, .ref r_row, .int i_rows, .int i_seed])), (r_refused, .inl (cI, 7, .inl (upd g 6 (w + 1))))])) (va_A [(h0, .inr (6, [.ref r_refused, .ref r_now, .ref r_then, .ref r_before, .ref r_asIs, .int i_kept, .ref r_tape, .int i_taped, .int i_at, .int i_well, .ref r_begins, .ref r_kinds, .int i_sort, .ref r_field, .ref r_willTeach, .ref r_isBack, .ref r_told, .ref r_bestSeats, .ref r_firstSeats, .int i_bestPass, .int i_bestAll, .int i_leastAll, .int i_fits, .int i_mayBeForged, .int i_restMany, .int i_restAll, .int i_restMost, .int i_mostAll, .ref r_restLearn, .ref r_marksNow, .ref r_row, .int i_rows, .int i_seed])), (r_refused, .inl (cI, 7, .inl g))] sz)) 0 0 (va_A [(h0, .inr (6, [.ref r_refused, .ref r_now, .ref r_then, .ref r_before, .ref r_asIs, .int i_kept, .ref r_tape, .int i_taped, .int i_at, .int i_well, .ref r_begins, .ref r_kinds, .int i_sort, .ref r_field, .ref r_willTeach, .ref r_isBack, .ref r_told, .ref r_bestSeats, .ref r_firstSeats, .int i_bestPass, .int i_bestAll, .int i_leastAll, .int i_fits, .int i_mayBeForged, .int i_restMany, .int i_restAll, .int i_restMost, .int i_mostAll, .ref r_restLearn, .ref r_marksNow, .ref r_row, .int i_rows, .int i_seed])), (r_refused, .inl (cI, 7, .inl g))] sz) := by
  refine Met.ofW (cc := cX8_no) (maxL := 2) (ret := (some .int)) (by decide) rfl ?_
  intro p e s m args below meth c s₁ B hml hv
  obtain ⟨rfl, hsz, hP, hK, hD0⟩ := hv
  have hx := B.exec
  have hb := B.bytes
  have hr := B.returns
  have hts := atoms_spec (ws := wsX8_no) B.pre
  have hown : s.vm.findClass RX8 = some m.cls := findClass_of_methodNamed B.named
  have hlocks := B.notSynchronized
  subst hsz
  have hD := hD0.self (sz := s.heap.size)
  generalize hAe : va_A [(h0, .inr (6, [.ref r_refused, .ref r_now, .ref r_then, .ref r_before, .ref r_asIs, .int i_kept, .ref r_tape, .int i_taped, .int i_at, .int i_well, .ref r_begins, .ref r_kinds, .int i_sort, .ref r_field, .ref r_willTeach, .ref r_isBack, .ref r_told, .ref r_bestSeats, .ref r_firstSeats, .int i_bestPass, .int i_bestAll, .int i_leastAll, .int i_fits, .int i_mayBeForged, .int i_restMany, .int i_restAll, .int i_restMost, .int i_mostAll, .ref r_restLearn, .ref r_marksNow, .ref r_row, .int i_rows, .int i_seed])), (r_refused, .inl (cI, 7, .inl g))] s.heap.size = A at hD ⊢
  have hA : ∀ q : Nat, s.heap.size ≤ q → A q := fun q h => by rw [← hAe]; exact Or.inr h
  have hS : va_S A s.heap s.heap [] := va_S.rf
  have hl := lv_entry ([.ref h0, .int (-6)]) (n := 2) (Nat.le_of_ble_eq_true rfl)
  rw [lg_entry_eq]
  generalize (lg_sl ([.ref h0, .int (-6)]) ++ List.replicate (2 - (lg_sl ([.ref h0, .int (-6)])).length) Slot.unset).toArray = ls at hl ⊢
  have hl : lv_has ls 2 [(0, .ref h0), (1, .int (-6))] := hl
  have iX8 : ∀ w ∈ u_ws RX8 TX8 33, w ∈ wsX8_no := by decide +kernel
  refine lv_aload_n hx hb dX8_no_0 rfl (lv_at hl 0 rfl) ?_
  refine va_get (D := (dC, dI)) (ci := 6) (v := .ref r_refused) (C := RX8) (T := TX8) (N := 33) hx hb hts iX8 hown hK hP 0 rfl rfl 0 (by decide) (hts (.fieldLink RX8 1 "NeighboursMarkModel" "refused" "[I") (by decide +kernel)) (fun _ h9 => h9) rfl dX8_no_1 ?_
  refine lv_iload_n hx hb dX8_no_4 rfl (lv_at hl 1 rfl) ?_
  refine lv_ineg hx hb dX8_no_5 ?_
  refine lv_topi (fun x1 ex1 => ?_)
  have ex1 : 6 = x1 := (ex1.trans (by decide)).symm
  subst ex1
  refine lv_dup2_11 hx hb dX8_no_6 rfl rfl ?_
  refine va_iald hx hb hK hP 1 0 rfl rfl (by unfold vp_in; decide) dX8_no_7 ?_
  refine lv_topi (fun x2 ex2 => ?_)
  have ex2 : w = x2 := (ex2.trans hg).symm
  subst ex2
  refine lv_iconst (v := 1) hx hb dX8_no_8 (by decide) ?_
  refine lv_iadd hx hb dX8_no_9 ?_
  refine va_iast hx hb hK hP hD hS 1 0 rfl rfl (by unfold vp_in; decide) dX8_no_10 (fun H locs hP hD hS => ?_)
  have hP : va_P (dC, dI) vwCl [(h0, .inr (6, [.ref r_refused, .ref r_now, .ref r_then, .ref r_before, .ref r_asIs, .int i_kept, .ref r_tape, .int i_taped, .int i_at, .int i_well, .ref r_begins, .ref r_kinds, .int i_sort, .ref r_field, .ref r_willTeach, .ref r_isBack, .ref r_told, .ref r_bestSeats, .ref r_firstSeats, .int i_bestPass, .int i_bestAll, .int i_leastAll, .int i_fits, .int i_mayBeForged, .int i_restMany, .int i_restAll, .int i_restMost, .int i_mostAll, .ref r_restLearn, .ref r_marksNow, .ref r_row, .int i_rows, .int i_seed])), (r_refused, .inl (cI, 7, .inl (upd g 6 (w + 1))))] H := hP
  have hD : va_D A [(h0, .inr (6, [.ref r_refused, .ref r_now, .ref r_then, .ref r_before, .ref r_asIs, .int i_kept, .ref r_tape, .int i_taped, .int i_at, .int i_well, .ref r_begins, .ref r_kinds, .int i_sort, .ref r_field, .ref r_willTeach, .ref r_isBack, .ref r_told, .ref r_bestSeats, .ref r_firstSeats, .int i_bestPass, .int i_bestAll, .int i_leastAll, .int i_fits, .int i_mayBeForged, .int i_restMany, .int i_restAll, .int i_restMost, .int i_mostAll, .ref r_restLearn, .ref r_marksNow, .ref r_row, .int i_rows, .int i_seed])), (r_refused, .inl (cI, 7, .inl (upd g 6 (w + 1))))] := hD
  refine lv_iload_n hx hb dX8_no_11 rfl (lv_at hl 1 rfl) ?_
  exact vx_iret (u := ()) hx hb hr hlocks hK hP hD hS [0, 1] rfl (by decide) rfl dX8_no_12
set_option maxHeartbeats 4000000 in
set_option maxRecDepth 100000 in
theorem r_move (l : Launch) (dC : Nat → ClassId) (dI : Nat → Nat → Nat) (cI cC cZ : ClassId) (sz : Nat) (h0 h1 : Nat) (f g : Nat → Int32) : Met l yX8_move wsX8_move ({ frames := 0, cells := 0, slots := 0, locals := 0 }) (va_Pc [.ref h0, .ref h1] (vx_B (dC, dI) (vx_T cI cC cZ) sz [(h0, .inl (cI, 80, .inl f)), (h1, .inl (cI, 80, .inl g))])) (va_Qv (fun (_ : Unit) => True) (vx_C (dC, dI) (vx_T cI cC cZ) (va_A [(h0, .inl (cI, 80, .inl f)), (h1, .inl (cI, 80, .inl g))] sz) (fun (u : Unit) => [(h0, .inl (cI, 80, .inl f)), (h1, .inl (cI, 80, .inl (va_cpy f g 0 0 80)))])) (va_A [(h0, .inl (cI, 80, .inl f)), (h1, .inl (cI, 80, .inl g))] sz)) 0 0 (va_A [(h0, .inl (cI, 80, .inl f)), (h1, .inl (cI, 80, .inl g))] sz) := by
  refine Met.ofW (cc := cX8_move) (maxL := 3) (ret := none) (by decide) rfl ?_
  intro p e s m args below meth c s₁ B hml hv
  obtain ⟨rfl, hsz, hP, hK, hD0⟩ := hv
  have hx := B.exec
  have hb := B.bytes
  have hr := B.returns
  have hts := atoms_spec (ws := wsX8_move) B.pre
  have hown : s.vm.findClass RX8 = some m.cls := findClass_of_methodNamed B.named
  have hlocks := B.notSynchronized
  subst hsz
  have hD := hD0.self (sz := s.heap.size)
  generalize hAe : va_A [(h0, .inl (cI, 80, .inl f)), (h1, .inl (cI, 80, .inl g))] s.heap.size = A at hD ⊢
  have hA : ∀ q : Nat, s.heap.size ≤ q → A q := fun q h => by rw [← hAe]; exact Or.inr h
  have hS : va_S A s.heap s.heap [] := va_S.rf
  have hl := lv_entry ([.ref h0, .ref h1]) (n := 3) (Nat.le_of_ble_eq_true rfl)
  rw [lg_entry_eq]
  generalize (lg_sl ([.ref h0, .ref h1]) ++ List.replicate (3 - (lg_sl ([.ref h0, .ref h1])).length) Slot.unset).toArray = ls at hl ⊢
  have hl : lv_has ls 3 [(0, .ref h0), (1, .ref h1)] := hl
  refine lv_iconst (v := 0) hx hb dX8_move_0 (by decide) ?_
  refine lv_istore_n (lv' := [(2, .int 0), (0, .ref h0), (1, .ref h1)]) hx hb dX8_move_1 rfl hl (by decide) rfl (fun ls hl => ?_)
  have hP : va_P (dC, dI) vwCl [(h0, .inl (cI, 80, .inl f)), (h1, .inl (cI, 80, .inl (va_cpy f g 0 0 0)))] s.heap := by rw [cp_0]; exact hP
  have hD : va_D A [(h0, .inl (cI, 80, .inl f)), (h1, .inl (cI, 80, .inl (va_cpy f g 0 0 0)))] := by rw [cp_0]; exact hD
  have loop : ∀ (d : Nat) (j : Nat), j ≤ 80 → 80 - j < d → ∀ (H : Heap) (locs : List Loc) (ls : Array Slot), lv_has ls 3 [(2, .int (nI j)), (0, .ref h0), (1, .ref h1)] → va_P (dC, dI) vwCl [(h0, .inl (cI, 80, .inl f)), (h1, .inl (cI, 80, .inl (va_cpy f g 0 0 j)))] H → va_D A [(h0, .inl (cI, 80, .inl f)), (h1, .inl (cI, 80, .inl (va_cpy f g 0 0 j)))] → va_S A s.heap H locs → W p l e (headSpec wsX8_move ({ frames := 0, cells := 0, slots := 0, locals := 0 })).room s m ([.ref h0, .ref h1].toArray) below meth c H locs 0 0 (MQ below (va_Qv (fun (_ : Unit) => True) (vx_C (dC, dI) (vx_T cI cC cZ) A (fun (u : Unit) => [(h0, .inl (cI, 80, .inl f)), (h1, .inl (cI, 80, .inl (va_cpy f g 0 0 80)))])) A) ([.ref h0, .ref h1].toArray) s 0 0 A) (F0 m 2 ls []) := by
    intro d
    induction d with
    | zero => intro j hj hd; exfalso; omega
    | succ d ih =>
      intro j hj hd H locs ls hl hP hD hS
      refine lv_iload_n hx hb dX8_move_2 rfl (lv_at hl 0 rfl) ?_
      refine lv_bipush (v := 80) hx hb dX8_move_3 (by decide) ?_
      refine lv_icmp_ge (tgt := 20) hx hb dX8_move_5 (by decide) (fun c1 => ?_) (fun c1 => ?_)
      · skip
        have hje : j = 80 := by have hz := (nI_leI (a := 80) (b := j) (by decide) (by omega)).mp c1; omega
        subst hje
        exact vx_vret (u := ()) hx hb hr hlocks hK hP hD hS [0, 1] rfl (by decide) trivial dX8_move_20
      · skip
        have hlt : j < 80 := Nat.lt_of_not_le (fun h => c1 (nI_le (a := 80) (b := j) h (by omega)))
        refine lv_aload_n hx hb dX8_move_8 rfl (lv_at hl 2 rfl) ?_
        refine lv_iload_n hx hb dX8_move_9 rfl (lv_at hl 0 rfl) ?_
        refine lv_aload_n hx hb dX8_move_10 rfl (lv_at hl 1 rfl) ?_
        refine lv_iload_n hx hb dX8_move_11 rfl (lv_at hl 0 rfl) ?_
        refine va_iald hx hb hK hP 0 0 rfl rfl (vp_in_nI (show j < 80 by omega) (by decide)) dX8_move_12 ?_
        refine lv_topi (fun x2 ex2 => ?_)
        refine va_iast hx hb hK hP hD hS 1 0 rfl rfl (vp_in_nI (show j < 80 by omega) (by decide)) dX8_move_13 (fun H locs hP hD hS => ?_)
        have hP : va_P (dC, dI) vwCl [(h0, .inl (cI, 80, .inl f)), (h1, .inl (cI, 80, .inl (upd (va_cpy f g 0 0 j) (nI j).toNatClampNeg x2)))] H := hP
        have hD : va_D A [(h0, .inl (cI, 80, .inl f)), (h1, .inl (cI, 80, .inl (upd (va_cpy f g 0 0 j) (nI j).toNatClampNeg x2)))] := hD
        have hcp := cp_S f g j (by omega)
        rw [← ex2] at hcp
        have hP : va_P (dC, dI) vwCl [(h0, .inl (cI, 80, .inl f)), (h1, .inl (cI, 80, .inl (va_cpy f g 0 0 (j + 1))))] H := by rw [← hcp]; exact hP
        have hD : va_D A [(h0, .inl (cI, 80, .inl f)), (h1, .inl (cI, 80, .inl (va_cpy f g 0 0 (j + 1))))] := by rw [← hcp]; exact hD
        refine lv_iinc (v := (nI (j + 1))) (lv' := [(2, .int (nI (j + 1))), (0, .ref h0), (1, .ref h1)]) hx hb dX8_move_14 hl (k := 0) rfl (nI_1 j) (by decide) rfl (fun ls hl => ?_)
        refine lv_goto (tgt := 2) hx hb dX8_move_17 (by decide) ?_
        exact ih (j + 1) (by omega) (by omega) _ _ _ (lv_sub hl [0, 1, 2] rfl) (hP.sub [0, 1] rfl) (hD.sub [0, 1] (by decide) rfl) hS
  exact loop 81 0 (by omega) (by omega) _ _ _ (lv_sub hl [0, 1, 2] rfl) (hP.sub [0, 1] rfl) (hD.sub [0, 1] (by decide) rfl) hS
theorem zz_r_isNobody_0 (pp : Int32) (h0 : ¬ pp < (0 : Int32)) (h1 : pp < (0 : Int32)) : False := by
  have e0 : (0 : Int32).toInt = 0 := by decide
  try simp only [Int32.lt_iff_toInt_lt, Int32.le_iff_toInt_le, ← Int32.toInt_inj, e0] at h0
  try simp only [Int32.lt_iff_toInt_lt, Int32.le_iff_toInt_le, ← Int32.toInt_inj, e0] at h1
  omega
set_option maxHeartbeats 4000000 in
set_option maxRecDepth 100000 in
theorem r_isNobody (l : Launch) (dC : Nat → ClassId) (dI : Nat → Nat → Nat) (cI cC cZ : ClassId) (sz : Nat) (h0 r_refused r_now r_then r_before r_asIs r_tape r_begins r_kinds r_field r_willTeach r_isBack r_told r_bestSeats r_firstSeats r_restLearn r_marksNow r_row : Nat) (i_kept i_taped i_at i_well i_sort i_bestPass i_bestAll i_leastAll i_fits i_mayBeForged i_restMany i_restAll i_restMost i_mostAll i_rows i_seed pp : Int32) (f : Nat → Int32) (hf0 : f 0 = 0) : Met l yX8_isNobody wsX8_isNobody ({ frames := 0, cells := 0, slots := 0, locals := 0 }) (va_Pc [.ref h0, .int pp] (vx_B (dC, dI) (vx_T cI cC cZ) sz [(h0, .inr (6, [.ref r_refused, .ref r_now, .ref r_then, .ref r_before, .ref r_asIs, .int i_kept, .ref r_tape, .int i_taped, .int i_at, .int i_well, .ref r_begins, .ref r_kinds, .int i_sort, .ref r_field, .ref r_willTeach, .ref r_isBack, .ref r_told, .ref r_bestSeats, .ref r_firstSeats, .int i_bestPass, .int i_bestAll, .int i_leastAll, .int i_fits, .int i_mayBeForged, .int i_restMany, .int i_restAll, .int i_restMost, .int i_mostAll, .ref r_restLearn, .ref r_marksNow, .ref r_row, .int i_rows, .int i_seed])), (r_now, .inl (cI, 80, .inl f))])) (va_Qi (fun (r : Int32) (_ : Unit) => r = 1) (vx_C (dC, dI) (vx_T cI cC cZ) (va_A [(h0, .inr (6, [.ref r_refused, .ref r_now, .ref r_then, .ref r_before, .ref r_asIs, .int i_kept, .ref r_tape, .int i_taped, .int i_at, .int i_well, .ref r_begins, .ref r_kinds, .int i_sort, .ref r_field, .ref r_willTeach, .ref r_isBack, .ref r_told, .ref r_bestSeats, .ref r_firstSeats, .int i_bestPass, .int i_bestAll, .int i_leastAll, .int i_fits, .int i_mayBeForged, .int i_restMany, .int i_restAll, .int i_restMost, .int i_mostAll, .ref r_restLearn, .ref r_marksNow, .ref r_row, .int i_rows, .int i_seed])), (r_now, .inl (cI, 80, .inl f))] sz) (fun (u : Unit) => [(h0, .inr (6, [.ref r_refused, .ref r_now, .ref r_then, .ref r_before, .ref r_asIs, .int i_kept, .ref r_tape, .int i_taped, .int i_at, .int i_well, .ref r_begins, .ref r_kinds, .int i_sort, .ref r_field, .ref r_willTeach, .ref r_isBack, .ref r_told, .ref r_bestSeats, .ref r_firstSeats, .int i_bestPass, .int i_bestAll, .int i_leastAll, .int i_fits, .int i_mayBeForged, .int i_restMany, .int i_restAll, .int i_restMost, .int i_mostAll, .ref r_restLearn, .ref r_marksNow, .ref r_row, .int i_rows, .int i_seed])), (r_now, .inl (cI, 80, .inl f))])) (va_A [(h0, .inr (6, [.ref r_refused, .ref r_now, .ref r_then, .ref r_before, .ref r_asIs, .int i_kept, .ref r_tape, .int i_taped, .int i_at, .int i_well, .ref r_begins, .ref r_kinds, .int i_sort, .ref r_field, .ref r_willTeach, .ref r_isBack, .ref r_told, .ref r_bestSeats, .ref r_firstSeats, .int i_bestPass, .int i_bestAll, .int i_leastAll, .int i_fits, .int i_mayBeForged, .int i_restMany, .int i_restAll, .int i_restMost, .int i_mostAll, .ref r_restLearn, .ref r_marksNow, .ref r_row, .int i_rows, .int i_seed])), (r_now, .inl (cI, 80, .inl f))] sz)) 0 0 (va_A [(h0, .inr (6, [.ref r_refused, .ref r_now, .ref r_then, .ref r_before, .ref r_asIs, .int i_kept, .ref r_tape, .int i_taped, .int i_at, .int i_well, .ref r_begins, .ref r_kinds, .int i_sort, .ref r_field, .ref r_willTeach, .ref r_isBack, .ref r_told, .ref r_bestSeats, .ref r_firstSeats, .int i_bestPass, .int i_bestAll, .int i_leastAll, .int i_fits, .int i_mayBeForged, .int i_restMany, .int i_restAll, .int i_restMost, .int i_mostAll, .ref r_restLearn, .ref r_marksNow, .ref r_row, .int i_rows, .int i_seed])), (r_now, .inl (cI, 80, .inl f))] sz) := by
  refine Met.ofW (cc := cX8_isNobody) (maxL := 2) (ret := (some .boolean)) (by decide) rfl ?_
  intro p e s m args below meth c s₁ B hml hv
  obtain ⟨rfl, hsz, hP, hK, hD0⟩ := hv
  have hx := B.exec
  have hb := B.bytes
  have hr := B.returns
  have hts := atoms_spec (ws := wsX8_isNobody) B.pre
  have hown : s.vm.findClass RX8 = some m.cls := findClass_of_methodNamed B.named
  have hlocks := B.notSynchronized
  subst hsz
  have hD := hD0.self (sz := s.heap.size)
  generalize hAe : va_A [(h0, .inr (6, [.ref r_refused, .ref r_now, .ref r_then, .ref r_before, .ref r_asIs, .int i_kept, .ref r_tape, .int i_taped, .int i_at, .int i_well, .ref r_begins, .ref r_kinds, .int i_sort, .ref r_field, .ref r_willTeach, .ref r_isBack, .ref r_told, .ref r_bestSeats, .ref r_firstSeats, .int i_bestPass, .int i_bestAll, .int i_leastAll, .int i_fits, .int i_mayBeForged, .int i_restMany, .int i_restAll, .int i_restMost, .int i_mostAll, .ref r_restLearn, .ref r_marksNow, .ref r_row, .int i_rows, .int i_seed])), (r_now, .inl (cI, 80, .inl f))] s.heap.size = A at hD ⊢
  have hA : ∀ q : Nat, s.heap.size ≤ q → A q := fun q h => by rw [← hAe]; exact Or.inr h
  have hS : va_S A s.heap s.heap [] := va_S.rf
  have hl := lv_entry ([.ref h0, .int pp]) (n := 2) (Nat.le_of_ble_eq_true rfl)
  rw [lg_entry_eq]
  generalize (lg_sl ([.ref h0, .int pp]) ++ List.replicate (2 - (lg_sl ([.ref h0, .int pp])).length) Slot.unset).toArray = ls at hl ⊢
  have hl : lv_has ls 2 [(0, .ref h0), (1, .int pp)] := hl
  have iX8 : ∀ w ∈ u_ws RX8 TX8 33, w ∈ wsX8_isNobody := by decide +kernel
  refine lv_iload_n hx hb dX8_isNobody_0 rfl (lv_at hl 1 rfl) ?_
  refine lv_if_lt (tgt := 14) hx hb dX8_isNobody_1 (by decide) (fun c1 => ?_) (fun c1 => ?_)
  · skip
    refine lv_iconst (v := 1) hx hb dX8_isNobody_14 (by decide) ?_
    refine lv_goto (tgt := 19) hx hb dX8_isNobody_15 (by decide) ?_
    exact vx_zret (u := ()) hx hb hr rfl hlocks hK hP hD hS [0, 1] rfl (by decide) rfl dX8_isNobody_19
  · skip
    refine lv_iload_n hx hb dX8_isNobody_4 rfl (lv_at hl 1 rfl) ?_
    refine lv_aload_n hx hb dX8_isNobody_5 rfl (lv_at hl 0 rfl) ?_
    refine va_get (D := (dC, dI)) (ci := 6) (v := .ref r_now) (C := RX8) (T := TX8) (N := 33) hx hb hts iX8 hown hK hP 0 rfl rfl 1 (by decide) (hts (.fieldLink RX8 13 "NeighboursMarkModel" "now" "[I") (by decide +kernel)) (fun _ h9 => h9) rfl dX8_isNobody_6 ?_
    refine lv_iconst (v := 0) hx hb dX8_isNobody_9 (by decide) ?_
    refine va_iald hx hb hK hP 1 0 rfl rfl (by unfold vp_in; decide) dX8_isNobody_10 ?_
    refine lv_topi (fun x2 ex2 => ?_)
    have ex2 : 0 = x2 := (ex2.trans hf0).symm
    subst ex2
    refine lv_icmp_lt (tgt := 18) hx hb dX8_isNobody_11 (by decide) (fun c3 => (zz_r_isNobody_0 pp c1 c3).elim) (fun c3 => ?_)
    refine lv_iconst (v := 1) hx hb dX8_isNobody_14 (by decide) ?_
    refine lv_goto (tgt := 19) hx hb dX8_isNobody_15 (by decide) ?_
    exact vx_zret (u := ()) hx hb hr rfl hlocks hK hP hD hS [0, 1] rfl (by decide) rfl dX8_isNobody_19
set_option maxHeartbeats 4000000 in
set_option maxRecDepth 100000 in
theorem r_whoPass (l : Launch) (dC : Nat → ClassId) (dI : Nat → Nat → Nat) (cI cC cZ : ClassId) (sz : Nat) (h0 r_refused r_now r_then r_before r_asIs r_tape r_begins r_kinds r_field r_willTeach r_isBack r_told r_bestSeats r_firstSeats r_restLearn r_marksNow r_row : Nat) (i_kept i_taped i_at i_well i_sort i_bestPass i_bestAll i_leastAll i_fits i_mayBeForged i_restMany i_restAll i_restMost i_mostAll i_rows i_seed : Int32) (f : Nat → Int32) (hf0 : f 0 = 0) : Met l yX8_whoPass wsX8_whoPass ({ frames := 0, cells := 0, slots := 0, locals := 0 }) (va_Pc [.ref h0] (vx_B (dC, dI) (vx_T cI cC cZ) sz [(h0, .inr (6, [.ref r_refused, .ref r_now, .ref r_then, .ref r_before, .ref r_asIs, .int i_kept, .ref r_tape, .int i_taped, .int i_at, .int i_well, .ref r_begins, .ref r_kinds, .int i_sort, .ref r_field, .ref r_willTeach, .ref r_isBack, .ref r_told, .ref r_bestSeats, .ref r_firstSeats, .int i_bestPass, .int i_bestAll, .int i_leastAll, .int i_fits, .int i_mayBeForged, .int i_restMany, .int i_restAll, .int i_restMost, .int i_mostAll, .ref r_restLearn, .ref r_marksNow, .ref r_row, .int i_rows, .int i_seed])), (r_now, .inl (cI, 80, .inl f))])) (va_Qi (fun (r : Int32) (_ : Unit) => r = 0) (vx_C (dC, dI) (vx_T cI cC cZ) (va_A [(h0, .inr (6, [.ref r_refused, .ref r_now, .ref r_then, .ref r_before, .ref r_asIs, .int i_kept, .ref r_tape, .int i_taped, .int i_at, .int i_well, .ref r_begins, .ref r_kinds, .int i_sort, .ref r_field, .ref r_willTeach, .ref r_isBack, .ref r_told, .ref r_bestSeats, .ref r_firstSeats, .int i_bestPass, .int i_bestAll, .int i_leastAll, .int i_fits, .int i_mayBeForged, .int i_restMany, .int i_restAll, .int i_restMost, .int i_mostAll, .ref r_restLearn, .ref r_marksNow, .ref r_row, .int i_rows, .int i_seed])), (r_now, .inl (cI, 80, .inl f))] sz) (fun (u : Unit) => [(h0, .inr (6, [.ref r_refused, .ref r_now, .ref r_then, .ref r_before, .ref r_asIs, .int i_kept, .ref r_tape, .int i_taped, .int i_at, .int i_well, .ref r_begins, .ref r_kinds, .int i_sort, .ref r_field, .ref r_willTeach, .ref r_isBack, .ref r_told, .ref r_bestSeats, .ref r_firstSeats, .int i_bestPass, .int i_bestAll, .int i_leastAll, .int i_fits, .int i_mayBeForged, .int i_restMany, .int i_restAll, .int i_restMost, .int i_mostAll, .ref r_restLearn, .ref r_marksNow, .ref r_row, .int i_rows, .int i_seed])), (r_now, .inl (cI, 80, .inl f))])) (va_A [(h0, .inr (6, [.ref r_refused, .ref r_now, .ref r_then, .ref r_before, .ref r_asIs, .int i_kept, .ref r_tape, .int i_taped, .int i_at, .int i_well, .ref r_begins, .ref r_kinds, .int i_sort, .ref r_field, .ref r_willTeach, .ref r_isBack, .ref r_told, .ref r_bestSeats, .ref r_firstSeats, .int i_bestPass, .int i_bestAll, .int i_leastAll, .int i_fits, .int i_mayBeForged, .int i_restMany, .int i_restAll, .int i_restMost, .int i_mostAll, .ref r_restLearn, .ref r_marksNow, .ref r_row, .int i_rows, .int i_seed])), (r_now, .inl (cI, 80, .inl f))] sz)) 0 0 (va_A [(h0, .inr (6, [.ref r_refused, .ref r_now, .ref r_then, .ref r_before, .ref r_asIs, .int i_kept, .ref r_tape, .int i_taped, .int i_at, .int i_well, .ref r_begins, .ref r_kinds, .int i_sort, .ref r_field, .ref r_willTeach, .ref r_isBack, .ref r_told, .ref r_bestSeats, .ref r_firstSeats, .int i_bestPass, .int i_bestAll, .int i_leastAll, .int i_fits, .int i_mayBeForged, .int i_restMany, .int i_restAll, .int i_restMost, .int i_mostAll, .ref r_restLearn, .ref r_marksNow, .ref r_row, .int i_rows, .int i_seed])), (r_now, .inl (cI, 80, .inl f))] sz) := by
  refine Met.ofW (cc := cX8_whoPass) (maxL := 3) (ret := (some .int)) (by decide) rfl ?_
  intro p e s m args below meth c s₁ B hml hv
  obtain ⟨rfl, hsz, hP, hK, hD0⟩ := hv
  have hx := B.exec
  have hb := B.bytes
  have hr := B.returns
  have hts := atoms_spec (ws := wsX8_whoPass) B.pre
  have hown : s.vm.findClass RX8 = some m.cls := findClass_of_methodNamed B.named
  have hlocks := B.notSynchronized
  subst hsz
  have hD := hD0.self (sz := s.heap.size)
  generalize hAe : va_A [(h0, .inr (6, [.ref r_refused, .ref r_now, .ref r_then, .ref r_before, .ref r_asIs, .int i_kept, .ref r_tape, .int i_taped, .int i_at, .int i_well, .ref r_begins, .ref r_kinds, .int i_sort, .ref r_field, .ref r_willTeach, .ref r_isBack, .ref r_told, .ref r_bestSeats, .ref r_firstSeats, .int i_bestPass, .int i_bestAll, .int i_leastAll, .int i_fits, .int i_mayBeForged, .int i_restMany, .int i_restAll, .int i_restMost, .int i_mostAll, .ref r_restLearn, .ref r_marksNow, .ref r_row, .int i_rows, .int i_seed])), (r_now, .inl (cI, 80, .inl f))] s.heap.size = A at hD ⊢
  have hA : ∀ q : Nat, s.heap.size ≤ q → A q := fun q h => by rw [← hAe]; exact Or.inr h
  have hS : va_S A s.heap s.heap [] := va_S.rf
  have hl := lv_entry ([.ref h0]) (n := 3) (Nat.le_of_ble_eq_true rfl)
  rw [lg_entry_eq]
  generalize (lg_sl ([.ref h0]) ++ List.replicate (3 - (lg_sl ([.ref h0])).length) Slot.unset).toArray = ls at hl ⊢
  have hl : lv_has ls 3 [(0, .ref h0)] := hl
  have iX8 : ∀ w ∈ u_ws RX8 TX8 33, w ∈ wsX8_whoPass := by decide +kernel
  refine lv_iconst (v := 0) hx hb dX8_whoPass_0 (by decide) ?_
  refine lv_istore_n (lv' := [(1, .int 0), (0, .ref h0)]) hx hb dX8_whoPass_1 rfl hl (by decide) rfl (fun ls hl => ?_)
  refine lv_iconst (v := 0) hx hb dX8_whoPass_2 (by decide) ?_
  refine lv_istore_n (lv' := [(2, .int 0), (1, .int 0), (0, .ref h0)]) hx hb dX8_whoPass_3 rfl hl (by decide) rfl (fun ls hl => ?_)
  refine lv_iload_n hx hb dX8_whoPass_4 rfl (lv_at hl 0 rfl) ?_
  refine lv_aload_n hx hb dX8_whoPass_5 rfl (lv_at hl 2 rfl) ?_
  refine va_get (D := (dC, dI)) (ci := 6) (v := .ref r_now) (C := RX8) (T := TX8) (N := 33) hx hb hts iX8 hown hK hP 0 rfl rfl 1 (by decide) (hts (.fieldLink RX8 13 "NeighboursMarkModel" "now" "[I") (by decide +kernel)) (fun _ h9 => h9) rfl dX8_whoPass_6 ?_
  refine lv_iconst (v := 0) hx hb dX8_whoPass_9 (by decide) ?_
  refine va_iald hx hb hK hP 1 0 rfl rfl (by unfold vp_in; decide) dX8_whoPass_10 ?_
  refine lv_topi (fun x1 ex1 => ?_)
  have ex1 : 0 = x1 := (ex1.trans hf0).symm
  subst ex1
  refine lv_icmp_ge (tgt := 50) hx hb dX8_whoPass_11 (by decide) (fun _ => ?_) (fun c0 => absurd (by decide) c0)
  refine lv_iload_n hx hb dX8_whoPass_50 rfl (lv_at hl 1 rfl) ?_
  exact vx_iret (u := ()) hx hb hr hlocks hK hP hD hS [0, 1] rfl (by decide) rfl dX8_whoPass_51
set_option maxHeartbeats 4000000 in
set_option maxRecDepth 100000 in
theorem r_together (l : Launch) (dC : Nat → ClassId) (dI : Nat → Nat → Nat) (cI cC cZ : ClassId) (sz : Nat) (h0 r_refused r_now r_then r_before r_asIs r_tape r_begins r_kinds r_field r_willTeach r_isBack r_told r_bestSeats r_firstSeats r_restLearn r_marksNow r_row : Nat) (i_kept i_taped i_at i_well i_sort i_bestPass i_bestAll i_leastAll i_fits i_mayBeForged i_restMany i_restAll i_restMost i_mostAll i_rows i_seed v : Int32) (f : Nat → Int32) (hf0 : f 0 = 0) : Met l yX8_together wsX8_together ({ frames := 0, cells := 0, slots := 0, locals := 0 }) (va_Pc [.ref h0, .int v] (vx_B (dC, dI) (vx_T cI cC cZ) sz [(h0, .inr (6, [.ref r_refused, .ref r_now, .ref r_then, .ref r_before, .ref r_asIs, .int i_kept, .ref r_tape, .int i_taped, .int i_at, .int i_well, .ref r_begins, .ref r_kinds, .int i_sort, .ref r_field, .ref r_willTeach, .ref r_isBack, .ref r_told, .ref r_bestSeats, .ref r_firstSeats, .int i_bestPass, .int i_bestAll, .int i_leastAll, .int i_fits, .int i_mayBeForged, .int i_restMany, .int i_restAll, .int i_restMost, .int i_mostAll, .ref r_restLearn, .ref r_marksNow, .ref r_row, .int i_rows, .int i_seed])), (r_now, .inl (cI, 80, .inl f))])) (va_Qi (fun (r : Int32) (_ : Unit) => r = 0) (vx_C (dC, dI) (vx_T cI cC cZ) (va_A [(h0, .inr (6, [.ref r_refused, .ref r_now, .ref r_then, .ref r_before, .ref r_asIs, .int i_kept, .ref r_tape, .int i_taped, .int i_at, .int i_well, .ref r_begins, .ref r_kinds, .int i_sort, .ref r_field, .ref r_willTeach, .ref r_isBack, .ref r_told, .ref r_bestSeats, .ref r_firstSeats, .int i_bestPass, .int i_bestAll, .int i_leastAll, .int i_fits, .int i_mayBeForged, .int i_restMany, .int i_restAll, .int i_restMost, .int i_mostAll, .ref r_restLearn, .ref r_marksNow, .ref r_row, .int i_rows, .int i_seed])), (r_now, .inl (cI, 80, .inl f))] sz) (fun (u : Unit) => [(h0, .inr (6, [.ref r_refused, .ref r_now, .ref r_then, .ref r_before, .ref r_asIs, .int i_kept, .ref r_tape, .int i_taped, .int i_at, .int i_well, .ref r_begins, .ref r_kinds, .int i_sort, .ref r_field, .ref r_willTeach, .ref r_isBack, .ref r_told, .ref r_bestSeats, .ref r_firstSeats, .int i_bestPass, .int i_bestAll, .int i_leastAll, .int i_fits, .int i_mayBeForged, .int i_restMany, .int i_restAll, .int i_restMost, .int i_mostAll, .ref r_restLearn, .ref r_marksNow, .ref r_row, .int i_rows, .int i_seed])), (r_now, .inl (cI, 80, .inl f))])) (va_A [(h0, .inr (6, [.ref r_refused, .ref r_now, .ref r_then, .ref r_before, .ref r_asIs, .int i_kept, .ref r_tape, .int i_taped, .int i_at, .int i_well, .ref r_begins, .ref r_kinds, .int i_sort, .ref r_field, .ref r_willTeach, .ref r_isBack, .ref r_told, .ref r_bestSeats, .ref r_firstSeats, .int i_bestPass, .int i_bestAll, .int i_leastAll, .int i_fits, .int i_mayBeForged, .int i_restMany, .int i_restAll, .int i_restMost, .int i_mostAll, .ref r_restLearn, .ref r_marksNow, .ref r_row, .int i_rows, .int i_seed])), (r_now, .inl (cI, 80, .inl f))] sz)) 0 0 (va_A [(h0, .inr (6, [.ref r_refused, .ref r_now, .ref r_then, .ref r_before, .ref r_asIs, .int i_kept, .ref r_tape, .int i_taped, .int i_at, .int i_well, .ref r_begins, .ref r_kinds, .int i_sort, .ref r_field, .ref r_willTeach, .ref r_isBack, .ref r_told, .ref r_bestSeats, .ref r_firstSeats, .int i_bestPass, .int i_bestAll, .int i_leastAll, .int i_fits, .int i_mayBeForged, .int i_restMany, .int i_restAll, .int i_restMost, .int i_mostAll, .ref r_restLearn, .ref r_marksNow, .ref r_row, .int i_rows, .int i_seed])), (r_now, .inl (cI, 80, .inl f))] sz) := by
  refine Met.ofW (cc := cX8_together) (maxL := 4) (ret := (some .int)) (by decide) rfl ?_
  intro p e s m args below meth c s₁ B hml hv
  obtain ⟨rfl, hsz, hP, hK, hD0⟩ := hv
  have hx := B.exec
  have hb := B.bytes
  have hr := B.returns
  have hts := atoms_spec (ws := wsX8_together) B.pre
  have hown : s.vm.findClass RX8 = some m.cls := findClass_of_methodNamed B.named
  have hlocks := B.notSynchronized
  subst hsz
  have hD := hD0.self (sz := s.heap.size)
  generalize hAe : va_A [(h0, .inr (6, [.ref r_refused, .ref r_now, .ref r_then, .ref r_before, .ref r_asIs, .int i_kept, .ref r_tape, .int i_taped, .int i_at, .int i_well, .ref r_begins, .ref r_kinds, .int i_sort, .ref r_field, .ref r_willTeach, .ref r_isBack, .ref r_told, .ref r_bestSeats, .ref r_firstSeats, .int i_bestPass, .int i_bestAll, .int i_leastAll, .int i_fits, .int i_mayBeForged, .int i_restMany, .int i_restAll, .int i_restMost, .int i_mostAll, .ref r_restLearn, .ref r_marksNow, .ref r_row, .int i_rows, .int i_seed])), (r_now, .inl (cI, 80, .inl f))] s.heap.size = A at hD ⊢
  have hA : ∀ q : Nat, s.heap.size ≤ q → A q := fun q h => by rw [← hAe]; exact Or.inr h
  have hS : va_S A s.heap s.heap [] := va_S.rf
  have hl := lv_entry ([.ref h0, .int v]) (n := 4) (Nat.le_of_ble_eq_true rfl)
  rw [lg_entry_eq]
  generalize (lg_sl ([.ref h0, .int v]) ++ List.replicate (4 - (lg_sl ([.ref h0, .int v])).length) Slot.unset).toArray = ls at hl ⊢
  have hl : lv_has ls 4 [(0, .ref h0), (1, .int v)] := hl
  have iX8 : ∀ w ∈ u_ws RX8 TX8 33, w ∈ wsX8_together := by decide +kernel
  refine lv_iconst (v := 0) hx hb dX8_together_0 (by decide) ?_
  refine lv_istore_n (lv' := [(2, .int 0), (0, .ref h0), (1, .int v)]) hx hb dX8_together_1 rfl hl (by decide) rfl (fun ls hl => ?_)
  refine lv_iconst (v := 0) hx hb dX8_together_2 (by decide) ?_
  refine lv_istore_n (lv' := [(3, .int 0), (2, .int 0), (0, .ref h0), (1, .int v)]) hx hb dX8_together_3 rfl hl (by decide) rfl (fun ls hl => ?_)
  refine lv_iload_n hx hb dX8_together_4 rfl (lv_at hl 0 rfl) ?_
  refine lv_aload_n hx hb dX8_together_5 rfl (lv_at hl 2 rfl) ?_
  refine va_get (D := (dC, dI)) (ci := 6) (v := .ref r_now) (C := RX8) (T := TX8) (N := 33) hx hb hts iX8 hown hK hP 0 rfl rfl 1 (by decide) (hts (.fieldLink RX8 13 "NeighboursMarkModel" "now" "[I") (by decide +kernel)) (fun _ h9 => h9) rfl dX8_together_6 ?_
  refine lv_iconst (v := 0) hx hb dX8_together_9 (by decide) ?_
  refine va_iald hx hb hK hP 1 0 rfl rfl (by unfold vp_in; decide) dX8_together_10 ?_
  refine lv_topi (fun x1 ex1 => ?_)
  have ex1 : 0 = x1 := (ex1.trans hf0).symm
  subst ex1
  refine lv_icmp_ge (tgt := 29) hx hb dX8_together_11 (by decide) (fun _ => ?_) (fun c0 => absurd (by decide) c0)
  refine lv_iload_n hx hb dX8_together_29 rfl (lv_at hl 1 rfl) ?_
  exact vx_iret (u := ()) hx hb hr hlocks hK hP hD hS [0, 1] rfl (by decide) rfl dX8_together_30
set_option maxHeartbeats 4000000 in
set_option maxRecDepth 100000 in
theorem r_bits (l : Launch) (dC : Nat → ClassId) (dI : Nat → Nat → Nat) (cI cC cZ : ClassId) (sz : Nat) : Met l yX8_bits wsX8_bits ({ frames := 0, cells := 0, slots := 0, locals := 0 }) (va_Pc [.int 0] (vx_B (dC, dI) (vx_T cI cC cZ) sz [])) (va_Qi (fun (r : Int32) (_ : Unit) => r = 0) (vx_C (dC, dI) (vx_T cI cC cZ) (va_A [] sz) (fun (u : Unit) => [])) (va_A [] sz)) 0 0 (va_A [] sz) := by
  refine Met.ofW (cc := cX8_bits) (maxL := 3) (ret := (some .int)) (by decide) rfl ?_
  intro p e s m args below meth c s₁ B hml hv
  obtain ⟨rfl, hsz, hP, hK, hD0⟩ := hv
  have hx := B.exec
  have hb := B.bytes
  have hr := B.returns
  have hts := atoms_spec (ws := wsX8_bits) B.pre
  have hown : s.vm.findClass RX8 = some m.cls := findClass_of_methodNamed B.named
  have hlocks := B.notSynchronized
  subst hsz
  have hD := hD0.self (sz := s.heap.size)
  generalize hAe : va_A [] s.heap.size = A at hD ⊢
  have hA : ∀ q : Nat, s.heap.size ≤ q → A q := fun q h => by rw [← hAe]; exact Or.inr h
  have hS : va_S A s.heap s.heap [] := va_S.rf
  have hl := lv_entry ([.int 0]) (n := 3) (Nat.le_of_ble_eq_true rfl)
  rw [lg_entry_eq]
  generalize (lg_sl ([.int 0]) ++ List.replicate (3 - (lg_sl ([.int 0])).length) Slot.unset).toArray = ls at hl ⊢
  have hl : lv_has ls 3 [(0, .int 0)] := hl
  refine lv_iconst (v := 0) hx hb dX8_bits_0 (by decide) ?_
  refine lv_istore_n (lv' := [(1, .int 0), (0, .int 0)]) hx hb dX8_bits_1 rfl hl (by decide) rfl (fun ls hl => ?_)
  refine lv_iconst (v := 0) hx hb dX8_bits_2 (by decide) ?_
  refine lv_istore_n (lv' := [(2, .int 0), (1, .int 0), (0, .int 0)]) hx hb dX8_bits_3 rfl hl (by decide) rfl (fun ls hl => ?_)
  refine lv_iload_n hx hb dX8_bits_4 rfl (lv_at hl 0 rfl) ?_
  refine lv_bipush (v := 6) hx hb dX8_bits_5 (by decide) ?_
  refine lv_icmp_ge (tgt := 24) hx hb dX8_bits_7 (by decide) (fun c0 => absurd c0 (by decide)) (fun _ => ?_)
  refine lv_iload_n hx hb dX8_bits_10 rfl (lv_at hl 1 rfl) ?_
  refine lv_iload_n hx hb dX8_bits_11 rfl (lv_at hl 2 rfl) ?_
  refine lv_iload_n hx hb dX8_bits_12 rfl (lv_at hl 0 rfl) ?_
  refine lv_ishr hx hb dX8_bits_13 ?_
  refine lv_topi (fun x1 ex1 => ?_)
  have ex1 : 0 = x1 := (ex1.trans (by decide)).symm
  subst ex1
  refine lv_iconst (v := 1) hx hb dX8_bits_14 (by decide) ?_
  refine lv_iand hx hb dX8_bits_15 ?_
  refine lv_topi (fun x2 ex2 => ?_)
  have ex2 : 0 = x2 := (ex2.trans (by decide)).symm
  subst ex2
  refine lv_iadd hx hb dX8_bits_16 ?_
  refine lv_topi (fun x3 ex3 => ?_)
  have ex3 : 0 = x3 := (ex3.trans (by decide)).symm
  subst ex3
  refine lv_istore_n (lv' := [(1, .int 0), (2, .int 0), (0, .int 0)]) hx hb dX8_bits_17 rfl hl (by decide) rfl (fun ls hl => ?_)
  refine lv_iinc (v := 1) (lv' := [(2, .int 1), (1, .int 0), (0, .int 0)]) hx hb dX8_bits_18 hl (k := 1) rfl (by decide) (by decide) rfl (fun ls hl => ?_)
  refine lv_goto (tgt := 4) hx hb dX8_bits_21 (by decide) ?_
  refine lv_iload_n hx hb dX8_bits_4 rfl (lv_at hl 0 rfl) ?_
  refine lv_bipush (v := 6) hx hb dX8_bits_5 (by decide) ?_
  refine lv_icmp_ge (tgt := 24) hx hb dX8_bits_7 (by decide) (fun c0 => absurd c0 (by decide)) (fun _ => ?_)
  refine lv_iload_n hx hb dX8_bits_10 rfl (lv_at hl 1 rfl) ?_
  refine lv_iload_n hx hb dX8_bits_11 rfl (lv_at hl 2 rfl) ?_
  refine lv_iload_n hx hb dX8_bits_12 rfl (lv_at hl 0 rfl) ?_
  refine lv_ishr hx hb dX8_bits_13 ?_
  refine lv_topi (fun x4 ex4 => ?_)
  have ex4 : 0 = x4 := (ex4.trans (by decide)).symm
  subst ex4
  refine lv_iconst (v := 1) hx hb dX8_bits_14 (by decide) ?_
  refine lv_iand hx hb dX8_bits_15 ?_
  refine lv_topi (fun x5 ex5 => ?_)
  have ex5 : 0 = x5 := (ex5.trans (by decide)).symm
  subst ex5
  refine lv_iadd hx hb dX8_bits_16 ?_
  refine lv_topi (fun x6 ex6 => ?_)
  have ex6 : 0 = x6 := (ex6.trans (by decide)).symm
  subst ex6
  refine lv_istore_n (lv' := [(1, .int 0), (2, .int 1), (0, .int 0)]) hx hb dX8_bits_17 rfl hl (by decide) rfl (fun ls hl => ?_)
  refine lv_iinc (v := 2) (lv' := [(2, .int 2), (1, .int 0), (0, .int 0)]) hx hb dX8_bits_18 hl (k := 1) rfl (by decide) (by decide) rfl (fun ls hl => ?_)
  refine lv_goto (tgt := 4) hx hb dX8_bits_21 (by decide) ?_
  refine lv_iload_n hx hb dX8_bits_4 rfl (lv_at hl 0 rfl) ?_
  refine lv_bipush (v := 6) hx hb dX8_bits_5 (by decide) ?_
  refine lv_icmp_ge (tgt := 24) hx hb dX8_bits_7 (by decide) (fun c0 => absurd c0 (by decide)) (fun _ => ?_)
  refine lv_iload_n hx hb dX8_bits_10 rfl (lv_at hl 1 rfl) ?_
  refine lv_iload_n hx hb dX8_bits_11 rfl (lv_at hl 2 rfl) ?_
  refine lv_iload_n hx hb dX8_bits_12 rfl (lv_at hl 0 rfl) ?_
  refine lv_ishr hx hb dX8_bits_13 ?_
  refine lv_topi (fun x7 ex7 => ?_)
  have ex7 : 0 = x7 := (ex7.trans (by decide)).symm
  subst ex7
  refine lv_iconst (v := 1) hx hb dX8_bits_14 (by decide) ?_
  refine lv_iand hx hb dX8_bits_15 ?_
  refine lv_topi (fun x8 ex8 => ?_)
  have ex8 : 0 = x8 := (ex8.trans (by decide)).symm
  subst ex8
  refine lv_iadd hx hb dX8_bits_16 ?_
  refine lv_topi (fun x9 ex9 => ?_)
  have ex9 : 0 = x9 := (ex9.trans (by decide)).symm
  subst ex9
  refine lv_istore_n (lv' := [(1, .int 0), (2, .int 2), (0, .int 0)]) hx hb dX8_bits_17 rfl hl (by decide) rfl (fun ls hl => ?_)
  refine lv_iinc (v := 3) (lv' := [(2, .int 3), (1, .int 0), (0, .int 0)]) hx hb dX8_bits_18 hl (k := 1) rfl (by decide) (by decide) rfl (fun ls hl => ?_)
  refine lv_goto (tgt := 4) hx hb dX8_bits_21 (by decide) ?_
  refine lv_iload_n hx hb dX8_bits_4 rfl (lv_at hl 0 rfl) ?_
  refine lv_bipush (v := 6) hx hb dX8_bits_5 (by decide) ?_
  refine lv_icmp_ge (tgt := 24) hx hb dX8_bits_7 (by decide) (fun c0 => absurd c0 (by decide)) (fun _ => ?_)
  refine lv_iload_n hx hb dX8_bits_10 rfl (lv_at hl 1 rfl) ?_
  refine lv_iload_n hx hb dX8_bits_11 rfl (lv_at hl 2 rfl) ?_
  refine lv_iload_n hx hb dX8_bits_12 rfl (lv_at hl 0 rfl) ?_
  refine lv_ishr hx hb dX8_bits_13 ?_
  refine lv_topi (fun x10 ex10 => ?_)
  have ex10 : 0 = x10 := (ex10.trans (by decide)).symm
  subst ex10
  refine lv_iconst (v := 1) hx hb dX8_bits_14 (by decide) ?_
  refine lv_iand hx hb dX8_bits_15 ?_
  refine lv_topi (fun x11 ex11 => ?_)
  have ex11 : 0 = x11 := (ex11.trans (by decide)).symm
  subst ex11
  refine lv_iadd hx hb dX8_bits_16 ?_
  refine lv_topi (fun x12 ex12 => ?_)
  have ex12 : 0 = x12 := (ex12.trans (by decide)).symm
  subst ex12
  refine lv_istore_n (lv' := [(1, .int 0), (2, .int 3), (0, .int 0)]) hx hb dX8_bits_17 rfl hl (by decide) rfl (fun ls hl => ?_)
  refine lv_iinc (v := 4) (lv' := [(2, .int 4), (1, .int 0), (0, .int 0)]) hx hb dX8_bits_18 hl (k := 1) rfl (by decide) (by decide) rfl (fun ls hl => ?_)
  refine lv_goto (tgt := 4) hx hb dX8_bits_21 (by decide) ?_
  refine lv_iload_n hx hb dX8_bits_4 rfl (lv_at hl 0 rfl) ?_
  refine lv_bipush (v := 6) hx hb dX8_bits_5 (by decide) ?_
  refine lv_icmp_ge (tgt := 24) hx hb dX8_bits_7 (by decide) (fun c0 => absurd c0 (by decide)) (fun _ => ?_)
  refine lv_iload_n hx hb dX8_bits_10 rfl (lv_at hl 1 rfl) ?_
  refine lv_iload_n hx hb dX8_bits_11 rfl (lv_at hl 2 rfl) ?_
  refine lv_iload_n hx hb dX8_bits_12 rfl (lv_at hl 0 rfl) ?_
  refine lv_ishr hx hb dX8_bits_13 ?_
  refine lv_topi (fun x13 ex13 => ?_)
  have ex13 : 0 = x13 := (ex13.trans (by decide)).symm
  subst ex13
  refine lv_iconst (v := 1) hx hb dX8_bits_14 (by decide) ?_
  refine lv_iand hx hb dX8_bits_15 ?_
  refine lv_topi (fun x14 ex14 => ?_)
  have ex14 : 0 = x14 := (ex14.trans (by decide)).symm
  subst ex14
  refine lv_iadd hx hb dX8_bits_16 ?_
  refine lv_topi (fun x15 ex15 => ?_)
  have ex15 : 0 = x15 := (ex15.trans (by decide)).symm
  subst ex15
  refine lv_istore_n (lv' := [(1, .int 0), (2, .int 4), (0, .int 0)]) hx hb dX8_bits_17 rfl hl (by decide) rfl (fun ls hl => ?_)
  refine lv_iinc (v := 5) (lv' := [(2, .int 5), (1, .int 0), (0, .int 0)]) hx hb dX8_bits_18 hl (k := 1) rfl (by decide) (by decide) rfl (fun ls hl => ?_)
  refine lv_goto (tgt := 4) hx hb dX8_bits_21 (by decide) ?_
  refine lv_iload_n hx hb dX8_bits_4 rfl (lv_at hl 0 rfl) ?_
  refine lv_bipush (v := 6) hx hb dX8_bits_5 (by decide) ?_
  refine lv_icmp_ge (tgt := 24) hx hb dX8_bits_7 (by decide) (fun c0 => absurd c0 (by decide)) (fun _ => ?_)
  refine lv_iload_n hx hb dX8_bits_10 rfl (lv_at hl 1 rfl) ?_
  refine lv_iload_n hx hb dX8_bits_11 rfl (lv_at hl 2 rfl) ?_
  refine lv_iload_n hx hb dX8_bits_12 rfl (lv_at hl 0 rfl) ?_
  refine lv_ishr hx hb dX8_bits_13 ?_
  refine lv_topi (fun x16 ex16 => ?_)
  have ex16 : 0 = x16 := (ex16.trans (by decide)).symm
  subst ex16
  refine lv_iconst (v := 1) hx hb dX8_bits_14 (by decide) ?_
  refine lv_iand hx hb dX8_bits_15 ?_
  refine lv_topi (fun x17 ex17 => ?_)
  have ex17 : 0 = x17 := (ex17.trans (by decide)).symm
  subst ex17
  refine lv_iadd hx hb dX8_bits_16 ?_
  refine lv_topi (fun x18 ex18 => ?_)
  have ex18 : 0 = x18 := (ex18.trans (by decide)).symm
  subst ex18
  refine lv_istore_n (lv' := [(1, .int 0), (2, .int 5), (0, .int 0)]) hx hb dX8_bits_17 rfl hl (by decide) rfl (fun ls hl => ?_)
  refine lv_iinc (v := 6) (lv' := [(2, .int 6), (1, .int 0), (0, .int 0)]) hx hb dX8_bits_18 hl (k := 1) rfl (by decide) (by decide) rfl (fun ls hl => ?_)
  refine lv_goto (tgt := 4) hx hb dX8_bits_21 (by decide) ?_
  refine lv_iload_n hx hb dX8_bits_4 rfl (lv_at hl 0 rfl) ?_
  refine lv_bipush (v := 6) hx hb dX8_bits_5 (by decide) ?_
  refine lv_icmp_ge (tgt := 24) hx hb dX8_bits_7 (by decide) (fun _ => ?_) (fun c0 => absurd (by decide) c0)
  refine lv_iload_n hx hb dX8_bits_24 rfl (lv_at hl 1 rfl) ?_
  exact vx_iret (u := ()) hx hb hr hlocks hK hP hD hS [] rfl (by decide) rfl dX8_bits_25
set_option maxHeartbeats 4000000 in
set_option maxRecDepth 100000 in
theorem r_goBy (l : Launch) (dC : Nat → ClassId) (dI : Nat → Nat → Nat) (cI cC cZ : ClassId) (sz : Nat) (h0 r_refused r_now r_then r_before r_asIs r_tape r_begins r_kinds r_field r_willTeach r_isBack r_told r_bestSeats r_firstSeats r_restLearn r_marksNow r_row : Nat) (i_kept i_taped i_at i_well i_sort i_bestPass i_bestAll i_leastAll i_fits i_mayBeForged i_restMany i_restAll i_restMost i_mostAll i_rows i_seed w2 : Int32) (f : Nat → Int32) (hf0 : f 0 = 0) (hf2 : f 2 = w2) : Met l yX8_goBy wsX8_goBy ({ frames := 0, cells := 0, slots := 0, locals := 0 }) (va_Pc [.ref h0] (vx_B (dC, dI) (vx_T cI cC cZ) sz [(h0, .inr (6, [.ref r_refused, .ref r_now, .ref r_then, .ref r_before, .ref r_asIs, .int i_kept, .ref r_tape, .int i_taped, .int i_at, .int i_well, .ref r_begins, .ref r_kinds, .int i_sort, .ref r_field, .ref r_willTeach, .ref r_isBack, .ref r_told, .ref r_bestSeats, .ref r_firstSeats, .int i_bestPass, .int i_bestAll, .int i_leastAll, .int i_fits, .int i_mayBeForged, .int i_restMany, .int i_restAll, .int i_restMost, .int i_mostAll, .ref r_restLearn, .ref r_marksNow, .ref r_row, .int i_rows, .int i_seed])), (r_now, .inl (cI, 80, .inl f))])) (va_Qv (fun (_ : Unit) => True) (vx_C (dC, dI) (vx_T cI cC cZ) (va_A [(h0, .inr (6, [.ref r_refused, .ref r_now, .ref r_then, .ref r_before, .ref r_asIs, .int i_kept, .ref r_tape, .int i_taped, .int i_at, .int i_well, .ref r_begins, .ref r_kinds, .int i_sort, .ref r_field, .ref r_willTeach, .ref r_isBack, .ref r_told, .ref r_bestSeats, .ref r_firstSeats, .int i_bestPass, .int i_bestAll, .int i_leastAll, .int i_fits, .int i_mayBeForged, .int i_restMany, .int i_restAll, .int i_restMost, .int i_mostAll, .ref r_restLearn, .ref r_marksNow, .ref r_row, .int i_rows, .int i_seed])), (r_now, .inl (cI, 80, .inl f))] sz) (fun (u : Unit) => [(h0, .inr (6, [.ref r_refused, .ref r_now, .ref r_then, .ref r_before, .ref r_asIs, .int i_kept, .ref r_tape, .int i_taped, .int i_at, .int i_well, .ref r_begins, .ref r_kinds, .int i_sort, .ref r_field, .ref r_willTeach, .ref r_isBack, .ref r_told, .ref r_bestSeats, .ref r_firstSeats, .int i_bestPass, .int i_bestAll, .int i_leastAll, .int i_fits, .int i_mayBeForged, .int i_restMany, .int i_restAll, .int i_restMost, .int i_mostAll, .ref r_restLearn, .ref r_marksNow, .ref r_row, .int i_rows, .int i_seed])), (r_now, .inl (cI, 80, .inl (upd f 2 (w2 + 1))))])) (va_A [(h0, .inr (6, [.ref r_refused, .ref r_now, .ref r_then, .ref r_before, .ref r_asIs, .int i_kept, .ref r_tape, .int i_taped, .int i_at, .int i_well, .ref r_begins, .ref r_kinds, .int i_sort, .ref r_field, .ref r_willTeach, .ref r_isBack, .ref r_told, .ref r_bestSeats, .ref r_firstSeats, .int i_bestPass, .int i_bestAll, .int i_leastAll, .int i_fits, .int i_mayBeForged, .int i_restMany, .int i_restAll, .int i_restMost, .int i_mostAll, .ref r_restLearn, .ref r_marksNow, .ref r_row, .int i_rows, .int i_seed])), (r_now, .inl (cI, 80, .inl f))] sz)) 0 0 (va_A [(h0, .inr (6, [.ref r_refused, .ref r_now, .ref r_then, .ref r_before, .ref r_asIs, .int i_kept, .ref r_tape, .int i_taped, .int i_at, .int i_well, .ref r_begins, .ref r_kinds, .int i_sort, .ref r_field, .ref r_willTeach, .ref r_isBack, .ref r_told, .ref r_bestSeats, .ref r_firstSeats, .int i_bestPass, .int i_bestAll, .int i_leastAll, .int i_fits, .int i_mayBeForged, .int i_restMany, .int i_restAll, .int i_restMost, .int i_mostAll, .ref r_restLearn, .ref r_marksNow, .ref r_row, .int i_rows, .int i_seed])), (r_now, .inl (cI, 80, .inl f))] sz) := by
  refine Met.ofW (cc := cX8_goBy) (maxL := 2) (ret := none) (by decide) rfl ?_
  intro p e s m args below meth c s₁ B hml hv
  obtain ⟨rfl, hsz, hP, hK, hD0⟩ := hv
  have hx := B.exec
  have hb := B.bytes
  have hr := B.returns
  have hts := atoms_spec (ws := wsX8_goBy) B.pre
  have hown : s.vm.findClass RX8 = some m.cls := findClass_of_methodNamed B.named
  have hlocks := B.notSynchronized
  subst hsz
  have hD := hD0.self (sz := s.heap.size)
  generalize hAe : va_A [(h0, .inr (6, [.ref r_refused, .ref r_now, .ref r_then, .ref r_before, .ref r_asIs, .int i_kept, .ref r_tape, .int i_taped, .int i_at, .int i_well, .ref r_begins, .ref r_kinds, .int i_sort, .ref r_field, .ref r_willTeach, .ref r_isBack, .ref r_told, .ref r_bestSeats, .ref r_firstSeats, .int i_bestPass, .int i_bestAll, .int i_leastAll, .int i_fits, .int i_mayBeForged, .int i_restMany, .int i_restAll, .int i_restMost, .int i_mostAll, .ref r_restLearn, .ref r_marksNow, .ref r_row, .int i_rows, .int i_seed])), (r_now, .inl (cI, 80, .inl f))] s.heap.size = A at hD ⊢
  have hA : ∀ q : Nat, s.heap.size ≤ q → A q := fun q h => by rw [← hAe]; exact Or.inr h
  have hS : va_S A s.heap s.heap [] := va_S.rf
  have hl := lv_entry ([.ref h0]) (n := 2) (Nat.le_of_ble_eq_true rfl)
  rw [lg_entry_eq]
  generalize (lg_sl ([.ref h0]) ++ List.replicate (2 - (lg_sl ([.ref h0])).length) Slot.unset).toArray = ls at hl ⊢
  have hl : lv_has ls 2 [(0, .ref h0)] := hl
  have iX8 : ∀ w ∈ u_ws RX8 TX8 33, w ∈ wsX8_goBy := by decide +kernel
  refine lv_iconst (v := 0) hx hb dX8_goBy_0 (by decide) ?_
  refine lv_istore_n (lv' := [(1, .int 0), (0, .ref h0)]) hx hb dX8_goBy_1 rfl hl (by decide) rfl (fun ls hl => ?_)
  refine lv_iload_n hx hb dX8_goBy_2 rfl (lv_at hl 0 rfl) ?_
  refine lv_aload_n hx hb dX8_goBy_3 rfl (lv_at hl 1 rfl) ?_
  refine va_get (D := (dC, dI)) (ci := 6) (v := .ref r_now) (C := RX8) (T := TX8) (N := 33) hx hb hts iX8 hown hK hP 0 rfl rfl 1 (by decide) (hts (.fieldLink RX8 13 "NeighboursMarkModel" "now" "[I") (by decide +kernel)) (fun _ h9 => h9) rfl dX8_goBy_4 ?_
  refine lv_iconst (v := 0) hx hb dX8_goBy_7 (by decide) ?_
  refine va_iald hx hb hK hP 1 0 rfl rfl (by unfold vp_in; decide) dX8_goBy_8 ?_
  refine lv_topi (fun x1 ex1 => ?_)
  have ex1 : 0 = x1 := (ex1.trans hf0).symm
  subst ex1
  refine lv_icmp_ge (tgt := 29) hx hb dX8_goBy_9 (by decide) (fun _ => ?_) (fun c0 => absurd (by decide) c0)
  refine lv_iconst (v := 0) hx hb dX8_goBy_29 (by decide) ?_
  refine lv_istore_n (lv' := [(1, .int 0), (0, .ref h0)]) hx hb dX8_goBy_30 rfl hl (by decide) rfl (fun ls hl => ?_)
  refine lv_iload_n hx hb dX8_goBy_31 rfl (lv_at hl 0 rfl) ?_
  refine lv_aload_n hx hb dX8_goBy_32 rfl (lv_at hl 1 rfl) ?_
  refine va_get (D := (dC, dI)) (ci := 6) (v := .ref r_now) (C := RX8) (T := TX8) (N := 33) hx hb hts iX8 hown hK hP 0 rfl rfl 1 (by decide) (hts (.fieldLink RX8 13 "NeighboursMarkModel" "now" "[I") (by decide +kernel)) (fun _ h9 => h9) rfl dX8_goBy_33 ?_
  refine lv_iconst (v := 0) hx hb dX8_goBy_36 (by decide) ?_
  refine va_iald hx hb hK hP 1 0 rfl rfl (by unfold vp_in; decide) dX8_goBy_37 ?_
  refine lv_topi (fun x2 ex2 => ?_)
  have ex2 : 0 = x2 := (ex2.trans hf0).symm
  subst ex2
  refine lv_icmp_ge (tgt := 58) hx hb dX8_goBy_38 (by decide) (fun _ => ?_) (fun c0 => absurd (by decide) c0)
  refine lv_aload_n hx hb dX8_goBy_58 rfl (lv_at hl 1 rfl) ?_
  refine va_get (D := (dC, dI)) (ci := 6) (v := .ref r_now) (C := RX8) (T := TX8) (N := 33) hx hb hts iX8 hown hK hP 0 rfl rfl 1 (by decide) (hts (.fieldLink RX8 13 "NeighboursMarkModel" "now" "[I") (by decide +kernel)) (fun _ h9 => h9) rfl dX8_goBy_59 ?_
  refine lv_iconst (v := 2) hx hb dX8_goBy_62 (by decide) ?_
  refine lv_dup2_11 hx hb dX8_goBy_63 rfl rfl ?_
  refine va_iald hx hb hK hP 1 0 rfl rfl (by unfold vp_in; decide) dX8_goBy_64 ?_
  refine lv_topi (fun x3 ex3 => ?_)
  have ex3 : w2 = x3 := (ex3.trans hf2).symm
  subst ex3
  refine lv_iconst (v := 1) hx hb dX8_goBy_65 (by decide) ?_
  refine lv_iadd hx hb dX8_goBy_66 ?_
  refine va_iast hx hb hK hP hD hS 1 0 rfl rfl (by unfold vp_in; decide) dX8_goBy_67 (fun H locs hP hD hS => ?_)
  have hP : va_P (dC, dI) vwCl [(h0, .inr (6, [.ref r_refused, .ref r_now, .ref r_then, .ref r_before, .ref r_asIs, .int i_kept, .ref r_tape, .int i_taped, .int i_at, .int i_well, .ref r_begins, .ref r_kinds, .int i_sort, .ref r_field, .ref r_willTeach, .ref r_isBack, .ref r_told, .ref r_bestSeats, .ref r_firstSeats, .int i_bestPass, .int i_bestAll, .int i_leastAll, .int i_fits, .int i_mayBeForged, .int i_restMany, .int i_restAll, .int i_restMost, .int i_mostAll, .ref r_restLearn, .ref r_marksNow, .ref r_row, .int i_rows, .int i_seed])), (r_now, .inl (cI, 80, .inl (upd f 2 (w2 + 1))))] H := hP
  have hD : va_D A [(h0, .inr (6, [.ref r_refused, .ref r_now, .ref r_then, .ref r_before, .ref r_asIs, .int i_kept, .ref r_tape, .int i_taped, .int i_at, .int i_well, .ref r_begins, .ref r_kinds, .int i_sort, .ref r_field, .ref r_willTeach, .ref r_isBack, .ref r_told, .ref r_bestSeats, .ref r_firstSeats, .int i_bestPass, .int i_bestAll, .int i_leastAll, .int i_fits, .int i_mayBeForged, .int i_restMany, .int i_restAll, .int i_restMost, .int i_mostAll, .ref r_restLearn, .ref r_marksNow, .ref r_row, .int i_rows, .int i_seed])), (r_now, .inl (cI, 80, .inl (upd f 2 (w2 + 1))))] := hD
  exact vx_vret (u := ()) hx hb hr hlocks hK hP hD hS [0, 1] rfl (by decide) trivial dX8_goBy_68
set_option maxHeartbeats 4000000 in
set_option maxRecDepth 100000 in
theorem r_isAsBefore (l : Launch) (dC : Nat → ClassId) (dI : Nat → Nat → Nat) (cI cC cZ : ClassId) (sz : Nat) (h0 r_refused r_now r_then r_before r_asIs r_tape r_begins r_kinds r_field r_willTeach r_isBack r_told r_bestSeats r_firstSeats r_restLearn r_marksNow r_row : Nat) (i_kept i_taped i_at i_well i_sort i_bestPass i_bestAll i_leastAll i_fits i_mayBeForged i_restMany i_restAll i_restMost i_mostAll i_rows i_seed : Int32) (f : Nat → Int32) (hf0 : f 0 = 0) : Met l yX8_isAsBefore wsX8_isAsBefore ({ frames := 0, cells := 0, slots := 0, locals := 0 }) (va_Pc [.ref h0] (vx_B (dC, dI) (vx_T cI cC cZ) sz [(h0, .inr (6, [.ref r_refused, .ref r_now, .ref r_then, .ref r_before, .ref r_asIs, .int i_kept, .ref r_tape, .int i_taped, .int i_at, .int i_well, .ref r_begins, .ref r_kinds, .int i_sort, .ref r_field, .ref r_willTeach, .ref r_isBack, .ref r_told, .ref r_bestSeats, .ref r_firstSeats, .int i_bestPass, .int i_bestAll, .int i_leastAll, .int i_fits, .int i_mayBeForged, .int i_restMany, .int i_restAll, .int i_restMost, .int i_mostAll, .ref r_restLearn, .ref r_marksNow, .ref r_row, .int i_rows, .int i_seed])), (r_now, .inl (cI, 80, .inl f))])) (va_Qi (fun (r : Int32) (_ : Unit) => r = 1) (vx_C (dC, dI) (vx_T cI cC cZ) (va_A [(h0, .inr (6, [.ref r_refused, .ref r_now, .ref r_then, .ref r_before, .ref r_asIs, .int i_kept, .ref r_tape, .int i_taped, .int i_at, .int i_well, .ref r_begins, .ref r_kinds, .int i_sort, .ref r_field, .ref r_willTeach, .ref r_isBack, .ref r_told, .ref r_bestSeats, .ref r_firstSeats, .int i_bestPass, .int i_bestAll, .int i_leastAll, .int i_fits, .int i_mayBeForged, .int i_restMany, .int i_restAll, .int i_restMost, .int i_mostAll, .ref r_restLearn, .ref r_marksNow, .ref r_row, .int i_rows, .int i_seed])), (r_now, .inl (cI, 80, .inl f))] sz) (fun (u : Unit) => [(h0, .inr (6, [.ref r_refused, .ref r_now, .ref r_then, .ref r_before, .ref r_asIs, .int i_kept, .ref r_tape, .int i_taped, .int i_at, .int i_well, .ref r_begins, .ref r_kinds, .int i_sort, .ref r_field, .ref r_willTeach, .ref r_isBack, .ref r_told, .ref r_bestSeats, .ref r_firstSeats, .int i_bestPass, .int i_bestAll, .int i_leastAll, .int i_fits, .int i_mayBeForged, .int i_restMany, .int i_restAll, .int i_restMost, .int i_mostAll, .ref r_restLearn, .ref r_marksNow, .ref r_row, .int i_rows, .int i_seed])), (r_now, .inl (cI, 80, .inl f))])) (va_A [(h0, .inr (6, [.ref r_refused, .ref r_now, .ref r_then, .ref r_before, .ref r_asIs, .int i_kept, .ref r_tape, .int i_taped, .int i_at, .int i_well, .ref r_begins, .ref r_kinds, .int i_sort, .ref r_field, .ref r_willTeach, .ref r_isBack, .ref r_told, .ref r_bestSeats, .ref r_firstSeats, .int i_bestPass, .int i_bestAll, .int i_leastAll, .int i_fits, .int i_mayBeForged, .int i_restMany, .int i_restAll, .int i_restMost, .int i_mostAll, .ref r_restLearn, .ref r_marksNow, .ref r_row, .int i_rows, .int i_seed])), (r_now, .inl (cI, 80, .inl f))] sz)) 0 0 (va_A [(h0, .inr (6, [.ref r_refused, .ref r_now, .ref r_then, .ref r_before, .ref r_asIs, .int i_kept, .ref r_tape, .int i_taped, .int i_at, .int i_well, .ref r_begins, .ref r_kinds, .int i_sort, .ref r_field, .ref r_willTeach, .ref r_isBack, .ref r_told, .ref r_bestSeats, .ref r_firstSeats, .int i_bestPass, .int i_bestAll, .int i_leastAll, .int i_fits, .int i_mayBeForged, .int i_restMany, .int i_restAll, .int i_restMost, .int i_mostAll, .ref r_restLearn, .ref r_marksNow, .ref r_row, .int i_rows, .int i_seed])), (r_now, .inl (cI, 80, .inl f))] sz) := by
  refine Met.ofW (cc := cX8_isAsBefore) (maxL := 3) (ret := (some .boolean)) (by decide) rfl ?_
  intro p e s m args below meth c s₁ B hml hv
  obtain ⟨rfl, hsz, hP, hK, hD0⟩ := hv
  have hx := B.exec
  have hb := B.bytes
  have hr := B.returns
  have hts := atoms_spec (ws := wsX8_isAsBefore) B.pre
  have hown : s.vm.findClass RX8 = some m.cls := findClass_of_methodNamed B.named
  have hlocks := B.notSynchronized
  subst hsz
  have hD := hD0.self (sz := s.heap.size)
  generalize hAe : va_A [(h0, .inr (6, [.ref r_refused, .ref r_now, .ref r_then, .ref r_before, .ref r_asIs, .int i_kept, .ref r_tape, .int i_taped, .int i_at, .int i_well, .ref r_begins, .ref r_kinds, .int i_sort, .ref r_field, .ref r_willTeach, .ref r_isBack, .ref r_told, .ref r_bestSeats, .ref r_firstSeats, .int i_bestPass, .int i_bestAll, .int i_leastAll, .int i_fits, .int i_mayBeForged, .int i_restMany, .int i_restAll, .int i_restMost, .int i_mostAll, .ref r_restLearn, .ref r_marksNow, .ref r_row, .int i_rows, .int i_seed])), (r_now, .inl (cI, 80, .inl f))] s.heap.size = A at hD ⊢
  have hA : ∀ q : Nat, s.heap.size ≤ q → A q := fun q h => by rw [← hAe]; exact Or.inr h
  have hS : va_S A s.heap s.heap [] := va_S.rf
  have hl := lv_entry ([.ref h0]) (n := 3) (Nat.le_of_ble_eq_true rfl)
  rw [lg_entry_eq]
  generalize (lg_sl ([.ref h0]) ++ List.replicate (3 - (lg_sl ([.ref h0])).length) Slot.unset).toArray = ls at hl ⊢
  have hl : lv_has ls 3 [(0, .ref h0)] := hl
  have iX8 : ∀ w ∈ u_ws RX8 TX8 33, w ∈ wsX8_isAsBefore := by decide +kernel
  refine lv_iconst (v := 1) hx hb dX8_isAsBefore_0 (by decide) ?_
  refine lv_istore_n (lv' := [(1, .int 1), (0, .ref h0)]) hx hb dX8_isAsBefore_1 rfl hl (by decide) rfl (fun ls hl => ?_)
  refine lv_iconst (v := 0) hx hb dX8_isAsBefore_2 (by decide) ?_
  refine lv_istore_n (lv' := [(2, .int 0), (1, .int 1), (0, .ref h0)]) hx hb dX8_isAsBefore_3 rfl hl (by decide) rfl (fun ls hl => ?_)
  refine lv_iload_n hx hb dX8_isAsBefore_4 rfl (lv_at hl 0 rfl) ?_
  refine lv_aload_n hx hb dX8_isAsBefore_5 rfl (lv_at hl 2 rfl) ?_
  refine va_get (D := (dC, dI)) (ci := 6) (v := .ref r_now) (C := RX8) (T := TX8) (N := 33) hx hb hts iX8 hown hK hP 0 rfl rfl 1 (by decide) (hts (.fieldLink RX8 13 "NeighboursMarkModel" "now" "[I") (by decide +kernel)) (fun _ h9 => h9) rfl dX8_isAsBefore_6 ?_
  refine lv_iconst (v := 0) hx hb dX8_isAsBefore_9 (by decide) ?_
  refine va_iald hx hb hK hP 1 0 rfl rfl (by unfold vp_in; decide) dX8_isAsBefore_10 ?_
  refine lv_topi (fun x1 ex1 => ?_)
  have ex1 : 0 = x1 := (ex1.trans hf0).symm
  subst ex1
  refine lv_icmp_ge (tgt := 51) hx hb dX8_isAsBefore_11 (by decide) (fun _ => ?_) (fun c0 => absurd (by decide) c0)
  refine lv_iload_n hx hb dX8_isAsBefore_51 rfl (lv_at hl 1 rfl) ?_
  exact vx_zret (u := ()) hx hb hr rfl hlocks hK hP hD hS [0, 1] rfl (by decide) rfl dX8_isAsBefore_52
set_option maxHeartbeats 4000000 in
set_option maxRecDepth 100000 in
theorem r_isAtRest (l : Launch) (dC : Nat → ClassId) (dI : Nat → Nat → Nat) (cI cC cZ : ClassId) (sz : Nat) (h0 r_refused r_now r_then r_before r_asIs r_tape r_begins r_kinds r_field r_willTeach r_isBack r_told r_bestSeats r_firstSeats r_restLearn r_marksNow r_row : Nat) (i_kept i_taped i_at i_well i_sort i_bestPass i_bestAll i_leastAll i_fits i_mayBeForged i_restMany i_restAll i_restMost i_mostAll i_rows i_seed : Int32) (f : Nat → Int32) (hf0 : f 0 = 0) : Met l yX8_isAtRest wsX8_isAtRest ({ frames := 0, cells := 0, slots := 0, locals := 0 }) (va_Pc [.ref h0] (vx_B (dC, dI) (vx_T cI cC cZ) sz [(h0, .inr (6, [.ref r_refused, .ref r_now, .ref r_then, .ref r_before, .ref r_asIs, .int i_kept, .ref r_tape, .int i_taped, .int i_at, .int i_well, .ref r_begins, .ref r_kinds, .int i_sort, .ref r_field, .ref r_willTeach, .ref r_isBack, .ref r_told, .ref r_bestSeats, .ref r_firstSeats, .int i_bestPass, .int i_bestAll, .int i_leastAll, .int i_fits, .int i_mayBeForged, .int i_restMany, .int i_restAll, .int i_restMost, .int i_mostAll, .ref r_restLearn, .ref r_marksNow, .ref r_row, .int i_rows, .int i_seed])), (r_now, .inl (cI, 80, .inl f))])) (va_Qi (fun (r : Int32) (_ : Unit) => r = 1) (vx_C (dC, dI) (vx_T cI cC cZ) (va_A [(h0, .inr (6, [.ref r_refused, .ref r_now, .ref r_then, .ref r_before, .ref r_asIs, .int i_kept, .ref r_tape, .int i_taped, .int i_at, .int i_well, .ref r_begins, .ref r_kinds, .int i_sort, .ref r_field, .ref r_willTeach, .ref r_isBack, .ref r_told, .ref r_bestSeats, .ref r_firstSeats, .int i_bestPass, .int i_bestAll, .int i_leastAll, .int i_fits, .int i_mayBeForged, .int i_restMany, .int i_restAll, .int i_restMost, .int i_mostAll, .ref r_restLearn, .ref r_marksNow, .ref r_row, .int i_rows, .int i_seed])), (r_now, .inl (cI, 80, .inl f))] sz) (fun (u : Unit) => [(h0, .inr (6, [.ref r_refused, .ref r_now, .ref r_then, .ref r_before, .ref r_asIs, .int i_kept, .ref r_tape, .int i_taped, .int i_at, .int i_well, .ref r_begins, .ref r_kinds, .int i_sort, .ref r_field, .ref r_willTeach, .ref r_isBack, .ref r_told, .ref r_bestSeats, .ref r_firstSeats, .int i_bestPass, .int i_bestAll, .int i_leastAll, .int i_fits, .int i_mayBeForged, .int i_restMany, .int i_restAll, .int i_restMost, .int i_mostAll, .ref r_restLearn, .ref r_marksNow, .ref r_row, .int i_rows, .int i_seed])), (r_now, .inl (cI, 80, .inl f))])) (va_A [(h0, .inr (6, [.ref r_refused, .ref r_now, .ref r_then, .ref r_before, .ref r_asIs, .int i_kept, .ref r_tape, .int i_taped, .int i_at, .int i_well, .ref r_begins, .ref r_kinds, .int i_sort, .ref r_field, .ref r_willTeach, .ref r_isBack, .ref r_told, .ref r_bestSeats, .ref r_firstSeats, .int i_bestPass, .int i_bestAll, .int i_leastAll, .int i_fits, .int i_mayBeForged, .int i_restMany, .int i_restAll, .int i_restMost, .int i_mostAll, .ref r_restLearn, .ref r_marksNow, .ref r_row, .int i_rows, .int i_seed])), (r_now, .inl (cI, 80, .inl f))] sz)) 0 0 (va_A [(h0, .inr (6, [.ref r_refused, .ref r_now, .ref r_then, .ref r_before, .ref r_asIs, .int i_kept, .ref r_tape, .int i_taped, .int i_at, .int i_well, .ref r_begins, .ref r_kinds, .int i_sort, .ref r_field, .ref r_willTeach, .ref r_isBack, .ref r_told, .ref r_bestSeats, .ref r_firstSeats, .int i_bestPass, .int i_bestAll, .int i_leastAll, .int i_fits, .int i_mayBeForged, .int i_restMany, .int i_restAll, .int i_restMost, .int i_mostAll, .ref r_restLearn, .ref r_marksNow, .ref r_row, .int i_rows, .int i_seed])), (r_now, .inl (cI, 80, .inl f))] sz) := by
  refine Met.ofW (cc := cX8_isAtRest) (maxL := 6) (ret := (some .boolean)) (by decide) rfl ?_
  intro p e s m args below meth c s₁ B hml hv
  obtain ⟨rfl, hsz, hP, hK, hD0⟩ := hv
  have hx := B.exec
  have hb := B.bytes
  have hr := B.returns
  have hts := atoms_spec (ws := wsX8_isAtRest) B.pre
  have hown : s.vm.findClass RX8 = some m.cls := findClass_of_methodNamed B.named
  have hlocks := B.notSynchronized
  subst hsz
  have hD := hD0.self (sz := s.heap.size)
  generalize hAe : va_A [(h0, .inr (6, [.ref r_refused, .ref r_now, .ref r_then, .ref r_before, .ref r_asIs, .int i_kept, .ref r_tape, .int i_taped, .int i_at, .int i_well, .ref r_begins, .ref r_kinds, .int i_sort, .ref r_field, .ref r_willTeach, .ref r_isBack, .ref r_told, .ref r_bestSeats, .ref r_firstSeats, .int i_bestPass, .int i_bestAll, .int i_leastAll, .int i_fits, .int i_mayBeForged, .int i_restMany, .int i_restAll, .int i_restMost, .int i_mostAll, .ref r_restLearn, .ref r_marksNow, .ref r_row, .int i_rows, .int i_seed])), (r_now, .inl (cI, 80, .inl f))] s.heap.size = A at hD ⊢
  have hA : ∀ q : Nat, s.heap.size ≤ q → A q := fun q h => by rw [← hAe]; exact Or.inr h
  have hS : va_S A s.heap s.heap [] := va_S.rf
  have hl := lv_entry ([.ref h0]) (n := 6) (Nat.le_of_ble_eq_true rfl)
  rw [lg_entry_eq]
  generalize (lg_sl ([.ref h0]) ++ List.replicate (6 - (lg_sl ([.ref h0])).length) Slot.unset).toArray = ls at hl ⊢
  have hl : lv_has ls 6 [(0, .ref h0)] := hl
  have iX8 : ∀ w ∈ u_ws RX8 TX8 33, w ∈ wsX8_isAtRest := by decide +kernel
  refine lv_iconst (v := 0) hx hb dX8_isAtRest_0 (by decide) ?_
  refine lv_istore_n (lv' := [(1, .int 0), (0, .ref h0)]) hx hb dX8_isAtRest_1 rfl hl (by decide) rfl (fun ls hl => ?_)
  refine lv_iload_n hx hb dX8_isAtRest_2 rfl (lv_at hl 0 rfl) ?_
  refine lv_aload_n hx hb dX8_isAtRest_3 rfl (lv_at hl 1 rfl) ?_
  refine va_get (D := (dC, dI)) (ci := 6) (v := .ref r_now) (C := RX8) (T := TX8) (N := 33) hx hb hts iX8 hown hK hP 0 rfl rfl 1 (by decide) (hts (.fieldLink RX8 13 "NeighboursMarkModel" "now" "[I") (by decide +kernel)) (fun _ h9 => h9) rfl dX8_isAtRest_4 ?_
  refine lv_iconst (v := 0) hx hb dX8_isAtRest_7 (by decide) ?_
  refine va_iald hx hb hK hP 1 0 rfl rfl (by unfold vp_in; decide) dX8_isAtRest_8 ?_
  refine lv_topi (fun x1 ex1 => ?_)
  have ex1 : 0 = x1 := (ex1.trans hf0).symm
  subst ex1
  refine lv_icmp_ge (tgt := 110) hx hb dX8_isAtRest_9 (by decide) (fun _ => ?_) (fun c0 => absurd (by decide) c0)
  refine lv_iconst (v := 1) hx hb dX8_isAtRest_110 (by decide) ?_
  exact vx_zret (u := ()) hx hb hr rfl hlocks hK hP hD hS [0, 1] rfl (by decide) rfl dX8_isAtRest_111
set_option maxHeartbeats 4000000 in
set_option maxRecDepth 100000 in
theorem r_isMended (l : Launch) (dC : Nat → ClassId) (dI : Nat → Nat → Nat) (cI cC cZ : ClassId) (sz : Nat) (h0 r_refused r_now r_then r_before r_asIs r_tape r_begins r_kinds r_field r_willTeach r_isBack r_told r_bestSeats r_firstSeats r_restLearn r_marksNow r_row : Nat) (i_kept i_taped i_at i_well i_sort i_bestPass i_bestAll i_leastAll i_fits i_mayBeForged i_restMany i_restAll i_restMost i_mostAll i_rows i_seed : Int32) (f : Nat → Int32) (hf0 : f 0 = 0) : Met l yX8_isMended wsX8_isMended ({ frames := 1, cells := 0, slots := 0, locals := 22 }) (va_Pc [.ref h0, .int 0, .int 0] (vx_B (dC, dI) (vx_T cI cC cZ) sz [(h0, .inr (6, [.ref r_refused, .ref r_now, .ref r_then, .ref r_before, .ref r_asIs, .int i_kept, .ref r_tape, .int i_taped, .int i_at, .int i_well, .ref r_begins, .ref r_kinds, .int i_sort, .ref r_field, .ref r_willTeach, .ref r_isBack, .ref r_told, .ref r_bestSeats, .ref r_firstSeats, .int i_bestPass, .int i_bestAll, .int i_leastAll, .int i_fits, .int i_mayBeForged, .int i_restMany, .int i_restAll, .int i_restMost, .int i_mostAll, .ref r_restLearn, .ref r_marksNow, .ref r_row, .int i_rows, .int i_seed])), (r_now, .inl (cI, 80, .inl f))])) (va_Qi (fun (r : Int32) (_ : Unit) => r = 1) (vx_C (dC, dI) (vx_T cI cC cZ) (va_A [(h0, .inr (6, [.ref r_refused, .ref r_now, .ref r_then, .ref r_before, .ref r_asIs, .int i_kept, .ref r_tape, .int i_taped, .int i_at, .int i_well, .ref r_begins, .ref r_kinds, .int i_sort, .ref r_field, .ref r_willTeach, .ref r_isBack, .ref r_told, .ref r_bestSeats, .ref r_firstSeats, .int i_bestPass, .int i_bestAll, .int i_leastAll, .int i_fits, .int i_mayBeForged, .int i_restMany, .int i_restAll, .int i_restMost, .int i_mostAll, .ref r_restLearn, .ref r_marksNow, .ref r_row, .int i_rows, .int i_seed])), (r_now, .inl (cI, 80, .inl f))] sz) (fun (u : Unit) => [(h0, .inr (6, [.ref r_refused, .ref r_now, .ref r_then, .ref r_before, .ref r_asIs, .int i_kept, .ref r_tape, .int i_taped, .int i_at, .int i_well, .ref r_begins, .ref r_kinds, .int i_sort, .ref r_field, .ref r_willTeach, .ref r_isBack, .ref r_told, .ref r_bestSeats, .ref r_firstSeats, .int i_bestPass, .int i_bestAll, .int i_leastAll, .int i_fits, .int i_mayBeForged, .int i_restMany, .int i_restAll, .int i_restMost, .int i_mostAll, .ref r_restLearn, .ref r_marksNow, .ref r_row, .int i_rows, .int i_seed])), (r_now, .inl (cI, 80, .inl f))])) (va_A [(h0, .inr (6, [.ref r_refused, .ref r_now, .ref r_then, .ref r_before, .ref r_asIs, .int i_kept, .ref r_tape, .int i_taped, .int i_at, .int i_well, .ref r_begins, .ref r_kinds, .int i_sort, .ref r_field, .ref r_willTeach, .ref r_isBack, .ref r_told, .ref r_bestSeats, .ref r_firstSeats, .int i_bestPass, .int i_bestAll, .int i_leastAll, .int i_fits, .int i_mayBeForged, .int i_restMany, .int i_restAll, .int i_restMost, .int i_mostAll, .ref r_restLearn, .ref r_marksNow, .ref r_row, .int i_rows, .int i_seed])), (r_now, .inl (cI, 80, .inl f))] sz)) 0 0 (va_A [(h0, .inr (6, [.ref r_refused, .ref r_now, .ref r_then, .ref r_before, .ref r_asIs, .int i_kept, .ref r_tape, .int i_taped, .int i_at, .int i_well, .ref r_begins, .ref r_kinds, .int i_sort, .ref r_field, .ref r_willTeach, .ref r_isBack, .ref r_told, .ref r_bestSeats, .ref r_firstSeats, .int i_bestPass, .int i_bestAll, .int i_leastAll, .int i_fits, .int i_mayBeForged, .int i_restMany, .int i_restAll, .int i_restMost, .int i_mostAll, .ref r_restLearn, .ref r_marksNow, .ref r_row, .int i_rows, .int i_seed])), (r_now, .inl (cI, 80, .inl f))] sz) := by
  refine Met.ofW (cc := cX8_isMended) (maxL := 6) (ret := (some .boolean)) (by decide) rfl ?_
  intro p e s m args below meth c s₁ B hml hv
  obtain ⟨rfl, hsz, hP, hK, hD0⟩ := hv
  have hx := B.exec
  have hb := B.bytes
  have hr := B.returns
  have hts := atoms_spec (ws := wsX8_isMended) B.pre
  have hown : s.vm.findClass RX8 = some m.cls := findClass_of_methodNamed B.named
  have hlocks := B.notSynchronized
  subst hsz
  have hD := hD0.self (sz := s.heap.size)
  generalize hAe : va_A [(h0, .inr (6, [.ref r_refused, .ref r_now, .ref r_then, .ref r_before, .ref r_asIs, .int i_kept, .ref r_tape, .int i_taped, .int i_at, .int i_well, .ref r_begins, .ref r_kinds, .int i_sort, .ref r_field, .ref r_willTeach, .ref r_isBack, .ref r_told, .ref r_bestSeats, .ref r_firstSeats, .int i_bestPass, .int i_bestAll, .int i_leastAll, .int i_fits, .int i_mayBeForged, .int i_restMany, .int i_restAll, .int i_restMost, .int i_mostAll, .ref r_restLearn, .ref r_marksNow, .ref r_row, .int i_rows, .int i_seed])), (r_now, .inl (cI, 80, .inl f))] s.heap.size = A at hD ⊢
  have hA : ∀ q : Nat, s.heap.size ≤ q → A q := fun q h => by rw [← hAe]; exact Or.inr h
  have hS : va_S A s.heap s.heap [] := va_S.rf
  have hl := lv_entry ([.ref h0, .int 0, .int 0]) (n := 6) (Nat.le_of_ble_eq_true rfl)
  rw [lg_entry_eq]
  generalize (lg_sl ([.ref h0, .int 0, .int 0]) ++ List.replicate (6 - (lg_sl ([.ref h0, .int 0, .int 0])).length) Slot.unset).toArray = ls at hl ⊢
  have hl : lv_has ls 6 [(0, .ref h0), (1, .int 0), (2, .int 0)] := hl
  refine lv_aload_n hx hb dX8_isMended_0 rfl (lv_at hl 0 rfl) ?_
  have hPc := hP.sub (ws' := [(h0, .inr (6, [.ref r_refused, .ref r_now, .ref r_then, .ref r_before, .ref r_asIs, .int i_kept, .ref r_tape, .int i_taped, .int i_at, .int i_well, .ref r_begins, .ref r_kinds, .int i_sort, .ref r_field, .ref r_willTeach, .ref r_isBack, .ref r_told, .ref r_bestSeats, .ref r_firstSeats, .int i_bestPass, .int i_bestAll, .int i_leastAll, .int i_fits, .int i_mayBeForged, .int i_restMany, .int i_restAll, .int i_restMost, .int i_mostAll, .ref r_restLearn, .ref r_marksNow, .ref r_row, .int i_rows, .int i_seed])), (r_now, .inl (cI, 80, .inl f))]) [0, 1] rfl
  have hDc := hD.sub (ws' := [(h0, .inr (6, [.ref r_refused, .ref r_now, .ref r_then, .ref r_before, .ref r_asIs, .int i_kept, .ref r_tape, .int i_taped, .int i_at, .int i_well, .ref r_begins, .ref r_kinds, .int i_sort, .ref r_field, .ref r_willTeach, .ref r_isBack, .ref r_told, .ref r_bestSeats, .ref r_firstSeats, .int i_bestPass, .int i_bestAll, .int i_leastAll, .int i_fits, .int i_mayBeForged, .int i_restMany, .int i_restAll, .int i_restMost, .int i_mostAll, .ref r_restLearn, .ref r_marksNow, .ref r_row, .int i_rows, .int i_seed])), (r_now, .inl (cI, 80, .inl f))]) [0, 1] (by decide) rfl
  refine vx_calli (wc := [(h0, .inr (6, [.ref r_refused, .ref r_now, .ref r_then, .ref r_before, .ref r_asIs, .int i_kept, .ref r_tape, .int i_taped, .int i_at, .int i_well, .ref r_begins, .ref r_kinds, .int i_sort, .ref r_field, .ref r_willTeach, .ref r_isBack, .ref r_told, .ref r_bestSeats, .ref r_firstSeats, .int i_bestPass, .int i_bestAll, .int i_leastAll, .int i_fits, .int i_mayBeForged, .int i_restMany, .int i_restAll, .int i_restMost, .int i_mostAll, .ref r_restLearn, .ref r_marksNow, .ref r_row, .int i_rows, .int i_seed])), (r_now, .inl (cI, 80, .inl f))]) (wr := []) hP hD hS hA [0, 1] [] rfl rfl (by decide) (by decide) (va_runV (As := []) (rest := []) ⟨hx, hb, hml, hown, hts⟩ (r_whoPass l dC dI cI cC cZ _ h0 r_refused r_now r_then r_before r_asIs r_tape r_begins r_kinds r_field r_willTeach r_isBack r_told r_bestSeats r_firstSeats r_restLearn r_marksNow r_row i_kept i_taped i_at i_well i_sort i_bestPass i_bestAll i_leastAll i_fits i_mayBeForged i_restMany i_restAll i_restMost i_mostAll i_rows i_seed f hf0) (cwV 0 hts gX8_isMended_X8_whoPass rfl rfl rfl (by decide +kernel) ⟨Nat.le_of_ble_eq_true rfl, Nat.le_of_ble_eq_true rfl⟩) ⟨vx_blind, va_recv hK hPc (ci := 6) (q0 := 0) rfl rfl, vx_pre hK hPc hDc⟩ rfl rfl hl.1 rfl (lv_room (Nat.le_of_ble_eq_true rfl)) dX8_isMended_1 ⟨Nat.le_of_ble_eq_true rfl, Nat.le_of_ble_eq_true rfl⟩) (fun r2 u1 H locs hw3 hP hD hS => ?_)
  have hP : va_P (dC, dI) vwCl [(h0, .inr (6, [.ref r_refused, .ref r_now, .ref r_then, .ref r_before, .ref r_asIs, .int i_kept, .ref r_tape, .int i_taped, .int i_at, .int i_well, .ref r_begins, .ref r_kinds, .int i_sort, .ref r_field, .ref r_willTeach, .ref r_isBack, .ref r_told, .ref r_bestSeats, .ref r_firstSeats, .int i_bestPass, .int i_bestAll, .int i_leastAll, .int i_fits, .int i_mayBeForged, .int i_restMany, .int i_restAll, .int i_restMost, .int i_mostAll, .ref r_restLearn, .ref r_marksNow, .ref r_row, .int i_rows, .int i_seed])), (r_now, .inl (cI, 80, .inl f))] H := hP
  have hD : va_D A [(h0, .inr (6, [.ref r_refused, .ref r_now, .ref r_then, .ref r_before, .ref r_asIs, .int i_kept, .ref r_tape, .int i_taped, .int i_at, .int i_well, .ref r_begins, .ref r_kinds, .int i_sort, .ref r_field, .ref r_willTeach, .ref r_isBack, .ref r_told, .ref r_bestSeats, .ref r_firstSeats, .int i_bestPass, .int i_bestAll, .int i_leastAll, .int i_fits, .int i_mayBeForged, .int i_restMany, .int i_restAll, .int i_restMost, .int i_mostAll, .ref r_restLearn, .ref r_marksNow, .ref r_row, .int i_rows, .int i_seed])), (r_now, .inl (cI, 80, .inl f))] := hD
  have er2 : 0 = r2 := Eq.symm hw3
  subst er2
  refine lv_iload_n hx hb dX8_isMended_4 rfl (lv_at hl 1 rfl) ?_
  refine lv_iand hx hb dX8_isMended_5 ?_
  refine lv_topi (fun x4 ex4 => ?_)
  have ex4 : 0 = x4 := (ex4.trans (by decide)).symm
  subst ex4
  refine lv_iload_n hx hb dX8_isMended_6 rfl (lv_at hl 1 rfl) ?_
  refine lv_icmp_ne (tgt := 12) hx hb dX8_isMended_7 (by decide) (fun c0 => absurd (by decide) c0) (fun _ => ?_)
  refine lv_iconst (v := 1) hx hb dX8_isMended_10 (by decide) ?_
  exact vx_zret (u := ()) hx hb hr rfl hlocks hK hP hD hS [0, 1] rfl (by decide) rfl dX8_isMended_11
