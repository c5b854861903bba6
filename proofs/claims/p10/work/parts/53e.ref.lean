set_option maxHeartbeats 8000000 in
set_option maxRecDepth 100000 in
theorem r_teach6_4 (l : Launch) (dC : Nat → ClassId) (dI : Nat → Nat → Nat) (cI cC cZ : ClassId) (sz : Nat) (h0 r_refused r_now r_then r_before r_asIs r_tape r_begins r_kinds r_field r_willTeach r_isBack r_told r_bestSeats r_firstSeats r_restLearn r_marksNow r_row : Nat) (v i_kept i_taped i_at i_well i_sort i_bestPass i_bestAll i_leastAll i_fits i_mayBeForged i_restMany i_restAll i_restMost i_mostAll i_rows i_seed n1 n2 t0 t1 t2 t3 t4 t5 : Int32) (f : Nat → Int32) (b_i_kept : 0 ≤ i_kept.toInt ∧ i_kept.toInt ≤ 1) (b_i_taped : 0 ≤ i_taped.toInt ∧ i_taped.toInt ≤ 64) (b_i_at : 0 ≤ i_at.toInt ∧ i_at.toInt ≤ 64) (b_i_well : 0 ≤ i_well.toInt ∧ i_well.toInt ≤ 1) (b_i_sort : 0 ≤ i_sort.toInt ∧ i_sort.toInt ≤ 6) (b_i_rows : 0 ≤ i_rows.toInt ∧ i_rows.toInt ≤ 6) (b_n1 : 1 ≤ n1.toInt ∧ n1.toInt ≤ 3) (nk_f : nok f) (f_0 : f 0 = 6) (f_1 : f 1 = n1) (f_2 : f 2 = n2) (f_60 : f 60 = t0) (f_61 : f 61 = t1) (f_62 : f 62 = t2) (f_63 : f 63 = t3) (f_64 : f 64 = t4) (f_65 : f 65 = t5) : Met l yX8_teach wsX8_teach ({ frames := 0, cells := 0, slots := 0, locals := 0 }) (va_Pc [.ref h0, .int 4, .int v] (vx_B (dC, dI) (vx_T cI cC cZ) sz [(h0, .inr (6, [.ref r_refused, .ref r_now, .ref r_then, .ref r_before, .ref r_asIs, .int i_kept, .ref r_tape, .int i_taped, .int i_at, .int i_well, .ref r_begins, .ref r_kinds, .int i_sort, .ref r_field, .ref r_willTeach, .ref r_isBack, .ref r_told, .ref r_bestSeats, .ref r_firstSeats, .int i_bestPass, .int i_bestAll, .int i_leastAll, .int i_fits, .int i_mayBeForged, .int i_restMany, .int i_restAll, .int i_restMost, .int i_mostAll, .ref r_restLearn, .ref r_marksNow, .ref r_row, .int i_rows, .int i_seed])), (r_now, .inl (cI, 80, .inl f))])) (va_Qv (fun (u : (Nat → Int32) × (Nat → Nat → Int32)) => nok (u.2 0) ∧ (u.2 0) 0 = 6 ∧ (u.2 0) 1 = n1 ∧ (u.2 0) 2 = n2 ∧ (u.2 0) 60 = t0 ∧ (u.2 0) 61 = t1 ∧ (u.2 0) 62 = t2 ∧ (u.2 0) 63 = t3 ∧ (u.2 0) 64 = v ∧ (u.2 0) 65 = t5 ∧ True) (vx_C (dC, dI) (vx_T cI cC cZ) (va_A [(h0, .inr (6, [.ref r_refused, .ref r_now, .ref r_then, .ref r_before, .ref r_asIs, .int i_kept, .ref r_tape, .int i_taped, .int i_at, .int i_well, .ref r_begins, .ref r_kinds, .int i_sort, .ref r_field, .ref r_willTeach, .ref r_isBack, .ref r_told, .ref r_bestSeats, .ref r_firstSeats, .int i_bestPass, .int i_bestAll, .int i_leastAll, .int i_fits, .int i_mayBeForged, .int i_restMany, .int i_restAll, .int i_restMost, .int i_mostAll, .ref r_restLearn, .ref r_marksNow, .ref r_row, .int i_rows, .int i_seed])), (r_now, .inl (cI, 80, .inl f))] sz) (fun (u : (Nat → Int32) × (Nat → Nat → Int32)) => [(h0, .inr (6, [.ref r_refused, .ref r_now, .ref r_then, .ref r_before, .ref r_asIs, .int i_kept, .ref r_tape, .int i_taped, .int i_at, .int i_well, .ref r_begins, .ref r_kinds, .int i_sort, .ref r_field, .ref r_willTeach, .ref r_isBack, .ref r_told, .ref r_bestSeats, .ref r_firstSeats, .int i_bestPass, .int i_bestAll, .int i_leastAll, .int i_fits, .int i_mayBeForged, .int i_restMany, .int i_restAll, .int i_restMost, .int i_mostAll, .ref r_restLearn, .ref r_marksNow, .ref r_row, .int i_rows, .int i_seed])), (r_now, .inl (cI, 80, .inl (u.2 0)))])) (va_A [(h0, .inr (6, [.ref r_refused, .ref r_now, .ref r_then, .ref r_before, .ref r_asIs, .int i_kept, .ref r_tape, .int i_taped, .int i_at, .int i_well, .ref r_begins, .ref r_kinds, .int i_sort, .ref r_field, .ref r_willTeach, .ref r_isBack, .ref r_told, .ref r_bestSeats, .ref r_firstSeats, .int i_bestPass, .int i_bestAll, .int i_leastAll, .int i_fits, .int i_mayBeForged, .int i_restMany, .int i_restAll, .int i_restMost, .int i_mostAll, .ref r_restLearn, .ref r_marksNow, .ref r_row, .int i_rows, .int i_seed])), (r_now, .inl (cI, 80, .inl f))] sz)) 0 0 (va_A [(h0, .inr (6, [.ref r_refused, .ref r_now, .ref r_then, .ref r_before, .ref r_asIs, .int i_kept, .ref r_tape, .int i_taped, .int i_at, .int i_well, .ref r_begins, .ref r_kinds, .int i_sort, .ref r_field, .ref r_willTeach, .ref r_isBack, .ref r_told, .ref r_bestSeats, .ref r_firstSeats, .int i_bestPass, .int i_bestAll, .int i_leastAll, .int i_fits, .int i_mayBeForged, .int i_restMany, .int i_restAll, .int i_restMost, .int i_mostAll, .ref r_restLearn, .ref r_marksNow, .ref r_row, .int i_rows, .int i_seed])), (r_now, .inl (cI, 80, .inl f))] sz) := by
  refine Met.ofW (cc := cX8_teach) (maxL := 3) (ret := none) (by decide) rfl ?_
  intro p e s m args below meth c s₁ B hml hv
  obtain ⟨rfl, hsz, hP, hK, hD0, hN⟩ := hv
  have hx := B.exec
  have hb := B.bytes
  have hr := B.returns
  have hts := atoms_spec (ws := wsX8_teach) B.pre
  have hown : s.vm.findClass RX8 = some m.cls := findClass_of_methodNamed B.named
  have hlocks := B.notSynchronized
  subst hsz
  have hD := hD0.self (sz := s.heap.size)
  generalize hAe : va_A [(h0, .inr (6, [.ref r_refused, .ref r_now, .ref r_then, .ref r_before, .ref r_asIs, .int i_kept, .ref r_tape, .int i_taped, .int i_at, .int i_well, .ref r_begins, .ref r_kinds, .int i_sort, .ref r_field, .ref r_willTeach, .ref r_isBack, .ref r_told, .ref r_bestSeats, .ref r_firstSeats, .int i_bestPass, .int i_bestAll, .int i_leastAll, .int i_fits, .int i_mayBeForged, .int i_restMany, .int i_restAll, .int i_restMost, .int i_mostAll, .ref r_restLearn, .ref r_marksNow, .ref r_row, .int i_rows, .int i_seed])), (r_now, .inl (cI, 80, .inl f))] s.heap.size = A at hD hN ⊢
  have hA : ∀ q : Nat, s.heap.size ≤ q → A q := fun q h => by rw [← hAe]; exact Or.inr h
  have hS : va_S A s.heap s.heap [] := va_S.rf
  have hl := lv_entry ([.ref h0, .int 4, .int v]) (n := 3) (Nat.le_of_ble_eq_true rfl)
  rw [lg_entry_eq]
  generalize (lg_sl ([.ref h0, .int 4, .int v]) ++ List.replicate (3 - (lg_sl ([.ref h0, .int 4, .int v])).length) Slot.unset).toArray = ls at hl ⊢
  have hl : lv_has ls 3 [(0, .ref h0), (1, .int 4), (2, .int v)] := hl
  have iX8 : ∀ w ∈ u_ws RX8 TX8 33, w ∈ wsX8_teach := fun w h => (List.mem_cons_of_mem _ (List.mem_append_right _ h))
  refine lv_aload_n hx hb dX8_teach_0 rfl (lv_at hl 0 rfl) ?_
  refine va_get (D := (dC, dI)) (ci := 6) (v := .ref r_now) (C := RX8) (T := TX8) (N := 33) hx hb hts iX8 hown hK hP 0 rfl rfl 1 (by decide) (hts (.fieldLink RX8 13 "NeighboursMarkModel" "now" "[I") (vm_at 1 rfl)) (fun _ h9 => h9) rfl dX8_teach_1 ?_
  refine lv_bipush (v := 60) hx hb dX8_teach_4 (by decide) ?_
  refine lv_iload_n hx hb dX8_teach_6 rfl (lv_at hl 1 rfl) ?_
  refine lv_iadd hx hb dX8_teach_7 ?_
  refine lv_topi (fun x1 ex1 => ?_)
  have ex1 : 64 = x1 := (ex1.trans (by decide)).symm
  subst ex1
  refine lv_iload_n hx hb dX8_teach_8 rfl (lv_at hl 2 rfl) ?_
  refine va_iast hx hb hK hP hD hS 1 0 rfl rfl (by unfold vp_in; decide) dX8_teach_9 (fun H locs hP hD hS => ?_)
  obtain ⟨wf2, ewf2⟩ : ∃ z : Nat → Int32, z = upd f (64 : Int32).toNatClampNeg v := ⟨_, rfl⟩
  rw [← ewf2] at hP hD
  have wf2_0 : wf2 0 = 6 := by rw [ewf2]; exact (pk_un (by decide)).trans f_0
  have wf2_1 : wf2 1 = n1 := by rw [ewf2]; exact (pk_un (by decide)).trans f_1
  have wf2_2 : wf2 2 = n2 := by rw [ewf2]; exact (pk_un (by decide)).trans f_2
  have wf2_60 : wf2 60 = t0 := by rw [ewf2]; exact (pk_un (by decide)).trans f_60
  have wf2_61 : wf2 61 = t1 := by rw [ewf2]; exact (pk_un (by decide)).trans f_61
  have wf2_62 : wf2 62 = t2 := by rw [ewf2]; exact (pk_un (by decide)).trans f_62
  have wf2_63 : wf2 63 = t3 := by rw [ewf2]; exact (pk_un (by decide)).trans f_63
  have wf2_64 : wf2 64 = v := by rw [ewf2]; exact pk_us
  have wf2_65 : wf2 65 = t5 := by rw [ewf2]; exact (pk_un (by decide)).trans f_65
  have nk_wf2 : nok wf2 := by rw [ewf2]; exact nok_out nk_f (by decide) (by decide)
  have hP : va_P (dC, dI) vwCl [(h0, .inr (6, [.ref r_refused, .ref r_now, .ref r_then, .ref r_before, .ref r_asIs, .int i_kept, .ref r_tape, .int i_taped, .int i_at, .int i_well, .ref r_begins, .ref r_kinds, .int i_sort, .ref r_field, .ref r_willTeach, .ref r_isBack, .ref r_told, .ref r_bestSeats, .ref r_firstSeats, .int i_bestPass, .int i_bestAll, .int i_leastAll, .int i_fits, .int i_mayBeForged, .int i_restMany, .int i_restAll, .int i_restMost, .int i_mostAll, .ref r_restLearn, .ref r_marksNow, .ref r_row, .int i_rows, .int i_seed])), (r_now, .inl (cI, 80, .inl wf2))] H := hP
  have hD : va_D A [(h0, .inr (6, [.ref r_refused, .ref r_now, .ref r_then, .ref r_before, .ref r_asIs, .int i_kept, .ref r_tape, .int i_taped, .int i_at, .int i_well, .ref r_begins, .ref r_kinds, .int i_sort, .ref r_field, .ref r_willTeach, .ref r_isBack, .ref r_told, .ref r_bestSeats, .ref r_firstSeats, .int i_bestPass, .int i_bestAll, .int i_leastAll, .int i_fits, .int i_mayBeForged, .int i_restMany, .int i_restAll, .int i_restMost, .int i_mostAll, .ref r_restLearn, .ref r_marksNow, .ref r_row, .int i_rows, .int i_seed])), (r_now, .inl (cI, 80, .inl wf2))] := hD
  refine lv_aload_n hx hb dX8_teach_10 rfl (lv_at hl 0 rfl) ?_
  refine va_get (D := (dC, dI)) (ci := 6) (v := .ref r_now) (C := RX8) (T := TX8) (N := 33) hx hb hts iX8 hown hK hP 0 rfl rfl 1 (by decide) (hts (.fieldLink RX8 13 "NeighboursMarkModel" "now" "[I") (vm_at 1 rfl)) (fun _ h9 => h9) rfl dX8_teach_11 ?_
  refine lv_bipush (v := 50) hx hb dX8_teach_14 (by decide) ?_
  refine lv_iload_n hx hb dX8_teach_16 rfl (lv_at hl 1 rfl) ?_
  refine lv_iadd hx hb dX8_teach_17 ?_
  refine lv_topi (fun x3 ex3 => ?_)
  have ex3 : 54 = x3 := (ex3.trans (by decide)).symm
  subst ex3
  refine lv_aload_n hx hb dX8_teach_18 rfl (lv_at hl 0 rfl) ?_
  refine va_get (D := (dC, dI)) (ci := 6) (v := .ref r_now) (C := RX8) (T := TX8) (N := 33) hx hb hts iX8 hown hK hP 0 rfl rfl 1 (by decide) (hts (.fieldLink RX8 13 "NeighboursMarkModel" "now" "[I") (vm_at 1 rfl)) (fun _ h9 => h9) rfl dX8_teach_19 ?_
  refine lv_iconst (v := 1) hx hb dX8_teach_22 (by decide) ?_
  refine va_iald hx hb hK hP 1 0 rfl rfl (by unfold vp_in; decide) dX8_teach_23 ?_
  refine lv_topi (fun x4 ex4 => ?_)
  have ex4 : n1 = x4 := (ex4.trans wf2_1).symm
  subst ex4
  refine lv_iload_n hx hb dX8_teach_24 rfl (lv_at hl 2 rfl) ?_
  refine lv_isub hx hb dX8_teach_25 ?_
  refine lv_topi (fun x5 ex5 => ?_)
  refine va_iast hx hb hK hP hD hS 1 0 rfl rfl (by unfold vp_in; decide) dX8_teach_26 (fun H locs hP hD hS => ?_)
  obtain ⟨wf6, ewf6⟩ : ∃ z : Nat → Int32, z = upd wf2 (54 : Int32).toNatClampNeg x5 := ⟨_, rfl⟩
  rw [← ewf6] at hP hD
  have wf6_0 : wf6 0 = 6 := by rw [ewf6]; exact (pk_un (by decide)).trans wf2_0
  have wf6_1 : wf6 1 = n1 := by rw [ewf6]; exact (pk_un (by decide)).trans wf2_1
  have wf6_2 : wf6 2 = n2 := by rw [ewf6]; exact (pk_un (by decide)).trans wf2_2
  have wf6_60 : wf6 60 = t0 := by rw [ewf6]; exact (pk_un (by decide)).trans wf2_60
  have wf6_61 : wf6 61 = t1 := by rw [ewf6]; exact (pk_un (by decide)).trans wf2_61
  have wf6_62 : wf6 62 = t2 := by rw [ewf6]; exact (pk_un (by decide)).trans wf2_62
  have wf6_63 : wf6 63 = t3 := by rw [ewf6]; exact (pk_un (by decide)).trans wf2_63
  have wf6_64 : wf6 64 = v := by rw [ewf6]; exact (pk_un (by decide)).trans wf2_64
  have wf6_65 : wf6 65 = t5 := by rw [ewf6]; exact (pk_un (by decide)).trans wf2_65
  have nk_wf6 : nok wf6 := by rw [ewf6]; exact nok_out nk_wf2 (by decide) (by decide)
  have hP : va_P (dC, dI) vwCl [(h0, .inr (6, [.ref r_refused, .ref r_now, .ref r_then, .ref r_before, .ref r_asIs, .int i_kept, .ref r_tape, .int i_taped, .int i_at, .int i_well, .ref r_begins, .ref r_kinds, .int i_sort, .ref r_field, .ref r_willTeach, .ref r_isBack, .ref r_told, .ref r_bestSeats, .ref r_firstSeats, .int i_bestPass, .int i_bestAll, .int i_leastAll, .int i_fits, .int i_mayBeForged, .int i_restMany, .int i_restAll, .int i_restMost, .int i_mostAll, .ref r_restLearn, .ref r_marksNow, .ref r_row, .int i_rows, .int i_seed])), (r_now, .inl (cI, 80, .inl wf6))] H := hP
  have hD : va_D A [(h0, .inr (6, [.ref r_refused, .ref r_now, .ref r_then, .ref r_before, .ref r_asIs, .int i_kept, .ref r_tape, .int i_taped, .int i_at, .int i_well, .ref r_begins, .ref r_kinds, .int i_sort, .ref r_field, .ref r_willTeach, .ref r_isBack, .ref r_told, .ref r_bestSeats, .ref r_firstSeats, .int i_bestPass, .int i_bestAll, .int i_leastAll, .int i_fits, .int i_mayBeForged, .int i_restMany, .int i_restAll, .int i_restMost, .int i_mostAll, .ref r_restLearn, .ref r_marksNow, .ref r_row, .int i_rows, .int i_seed])), (r_now, .inl (cI, 80, .inl wf6))] := hD
  exact vx_vret (u := ((fun k => ([] : List Int32).getD k 0), (fun k => ([wf6] : List (Nat → Int32)).getD k (fun _ => 0)))) hx hb hr hlocks hK hP hD hS [0, 1] rfl (by decide) ⟨nk_wf6, wf6_0, wf6_1, wf6_2, wf6_60, wf6_61, wf6_62, wf6_63, wf6_64, wf6_65, trivial⟩ dX8_teach_27
set_option maxHeartbeats 8000000 in
set_option maxRecDepth 100000 in
theorem r_teach6_5 (l : Launch) (dC : Nat → ClassId) (dI : Nat → Nat → Nat) (cI cC cZ : ClassId) (sz : Nat) (h0 r_refused r_now r_then r_before r_asIs r_tape r_begins r_kinds r_field r_willTeach r_isBack r_told r_bestSeats r_firstSeats r_restLearn r_marksNow r_row : Nat) (v i_kept i_taped i_at i_well i_sort i_bestPass i_bestAll i_leastAll i_fits i_mayBeForged i_restMany i_restAll i_restMost i_mostAll i_rows i_seed n1 n2 t0 t1 t2 t3 t4 t5 : Int32) (f : Nat → Int32) (b_i_kept : 0 ≤ i_kept.toInt ∧ i_kept.toInt ≤ 1) (b_i_taped : 0 ≤ i_taped.toInt ∧ i_taped.toInt ≤ 64) (b_i_at : 0 ≤ i_at.toInt ∧ i_at.toInt ≤ 64) (b_i_well : 0 ≤ i_well.toInt ∧ i_well.toInt ≤ 1) (b_i_sort : 0 ≤ i_sort.toInt ∧ i_sort.toInt ≤ 6) (b_i_rows : 0 ≤ i_rows.toInt ∧ i_rows.toInt ≤ 6) (b_n1 : 1 ≤ n1.toInt ∧ n1.toInt ≤ 3) (nk_f : nok f) (f_0 : f 0 = 6) (f_1 : f 1 = n1) (f_2 : f 2 = n2) (f_60 : f 60 = t0) (f_61 : f 61 = t1) (f_62 : f 62 = t2) (f_63 : f 63 = t3) (f_64 : f 64 = t4) (f_65 : f 65 = t5) : Met l yX8_teach wsX8_teach ({ frames := 0, cells := 0, slots := 0, locals := 0 }) (va_Pc [.ref h0, .int 5, .int v] (vx_B (dC, dI) (vx_T cI cC cZ) sz [(h0, .inr (6, [.ref r_refused, .ref r_now, .ref r_then, .ref r_before, .ref r_asIs, .int i_kept, .ref r_tape, .int i_taped, .int i_at, .int i_well, .ref r_begins, .ref r_kinds, .int i_sort, .ref r_field, .ref r_willTeach, .ref r_isBack, .ref r_told, .ref r_bestSeats, .ref r_firstSeats, .int i_bestPass, .int i_bestAll, .int i_leastAll, .int i_fits, .int i_mayBeForged, .int i_restMany, .int i_restAll, .int i_restMost, .int i_mostAll, .ref r_restLearn, .ref r_marksNow, .ref r_row, .int i_rows, .int i_seed])), (r_now, .inl (cI, 80, .inl f))])) (va_Qv (fun (u : (Nat → Int32) × (Nat → Nat → Int32)) => nok (u.2 0) ∧ (u.2 0) 0 = 6 ∧ (u.2 0) 1 = n1 ∧ (u.2 0) 2 = n2 ∧ (u.2 0) 60 = t0 ∧ (u.2 0) 61 = t1 ∧ (u.2 0) 62 = t2 ∧ (u.2 0) 63 = t3 ∧ (u.2 0) 64 = t4 ∧ (u.2 0) 65 = v ∧ True) (vx_C (dC, dI) (vx_T cI cC cZ) (va_A [(h0, .inr (6, [.ref r_refused, .ref r_now, .ref r_then, .ref r_before, .ref r_asIs, .int i_kept, .ref r_tape, .int i_taped, .int i_at, .int i_well, .ref r_begins, .ref r_kinds, .int i_sort, .ref r_field, .ref r_willTeach, .ref r_isBack, .ref r_told, .ref r_bestSeats, .ref r_firstSeats, .int i_bestPass, .int i_bestAll, .int i_leastAll, .int i_fits, .int i_mayBeForged, .int i_restMany, .int i_restAll, .int i_restMost, .int i_mostAll, .ref r_restLearn, .ref r_marksNow, .ref r_row, .int i_rows, .int i_seed])), (r_now, .inl (cI, 80, .inl f))] sz) (fun (u : (Nat → Int32) × (Nat → Nat → Int32)) => [(h0, .inr (6, [.ref r_refused, .ref r_now, .ref r_then, .ref r_before, .ref r_asIs, .int i_kept, .ref r_tape, .int i_taped, .int i_at, .int i_well, .ref r_begins, .ref r_kinds, .int i_sort, .ref r_field, .ref r_willTeach, .ref r_isBack, .ref r_told, .ref r_bestSeats, .ref r_firstSeats, .int i_bestPass, .int i_bestAll, .int i_leastAll, .int i_fits, .int i_mayBeForged, .int i_restMany, .int i_restAll, .int i_restMost, .int i_mostAll, .ref r_restLearn, .ref r_marksNow, .ref r_row, .int i_rows, .int i_seed])), (r_now, .inl (cI, 80, .inl (u.2 0)))])) (va_A [(h0, .inr (6, [.ref r_refused, .ref r_now, .ref r_then, .ref r_before, .ref r_asIs, .int i_kept, .ref r_tape, .int i_taped, .int i_at, .int i_well, .ref r_begins, .ref r_kinds, .int i_sort, .ref r_field, .ref r_willTeach, .ref r_isBack, .ref r_told, .ref r_bestSeats, .ref r_firstSeats, .int i_bestPass, .int i_bestAll, .int i_leastAll, .int i_fits, .int i_mayBeForged, .int i_restMany, .int i_restAll, .int i_restMost, .int i_mostAll, .ref r_restLearn, .ref r_marksNow, .ref r_row, .int i_rows, .int i_seed])), (r_now, .inl (cI, 80, .inl f))] sz)) 0 0 (va_A [(h0, .inr (6, [.ref r_refused, .ref r_now, .ref r_then, .ref r_before, .ref r_asIs, .int i_kept, .ref r_tape, .int i_taped, .int i_at, .int i_well, .ref r_begins, .ref r_kinds, .int i_sort, .ref r_field, .ref r_willTeach, .ref r_isBack, .ref r_told, .ref r_bestSeats, .ref r_firstSeats, .int i_bestPass, .int i_bestAll, .int i_leastAll, .int i_fits, .int i_mayBeForged, .int i_restMany, .int i_restAll, .int i_restMost, .int i_mostAll, .ref r_restLearn, .ref r_marksNow, .ref r_row, .int i_rows, .int i_seed])), (r_now, .inl (cI, 80, .inl f))] sz) := by
  refine Met.ofW (cc := cX8_teach) (maxL := 3) (ret := none) (by decide) rfl ?_
  intro p e s m args below meth c s₁ B hml hv
  obtain ⟨rfl, hsz, hP, hK, hD0, hN⟩ := hv
  have hx := B.exec
  have hb := B.bytes
  have hr := B.returns
  have hts := atoms_spec (ws := wsX8_teach) B.pre
  have hown : s.vm.findClass RX8 = some m.cls := findClass_of_methodNamed B.named
  have hlocks := B.notSynchronized
  subst hsz
  have hD := hD0.self (sz := s.heap.size)
  generalize hAe : va_A [(h0, .inr (6, [.ref r_refused, .ref r_now, .ref r_then, .ref r_before, .ref r_asIs, .int i_kept, .ref r_tape, .int i_taped, .int i_at, .int i_well, .ref r_begins, .ref r_kinds, .int i_sort, .ref r_field, .ref r_willTeach, .ref r_isBack, .ref r_told, .ref r_bestSeats, .ref r_firstSeats, .int i_bestPass, .int i_bestAll, .int i_leastAll, .int i_fits, .int i_mayBeForged, .int i_restMany, .int i_restAll, .int i_restMost, .int i_mostAll, .ref r_restLearn, .ref r_marksNow, .ref r_row, .int i_rows, .int i_seed])), (r_now, .inl (cI, 80, .inl f))] s.heap.size = A at hD hN ⊢
  have hA : ∀ q : Nat, s.heap.size ≤ q → A q := fun q h => by rw [← hAe]; exact Or.inr h
  have hS : va_S A s.heap s.heap [] := va_S.rf
  have hl := lv_entry ([.ref h0, .int 5, .int v]) (n := 3) (Nat.le_of_ble_eq_true rfl)
  rw [lg_entry_eq]
  generalize (lg_sl ([.ref h0, .int 5, .int v]) ++ List.replicate (3 - (lg_sl ([.ref h0, .int 5, .int v])).length) Slot.unset).toArray = ls at hl ⊢
  have hl : lv_has ls 3 [(0, .ref h0), (1, .int 5), (2, .int v)] := hl
  have iX8 : ∀ w ∈ u_ws RX8 TX8 33, w ∈ wsX8_teach := fun w h => (List.mem_cons_of_mem _ (List.mem_append_right _ h))
  refine lv_aload_n hx hb dX8_teach_0 rfl (lv_at hl 0 rfl) ?_
  refine va_get (D := (dC, dI)) (ci := 6) (v := .ref r_now) (C := RX8) (T := TX8) (N := 33) hx hb hts iX8 hown hK hP 0 rfl rfl 1 (by decide) (hts (.fieldLink RX8 13 "NeighboursMarkModel" "now" "[I") (vm_at 1 rfl)) (fun _ h9 => h9) rfl dX8_teach_1 ?_
  refine lv_bipush (v := 60) hx hb dX8_teach_4 (by decide) ?_
  refine lv_iload_n hx hb dX8_teach_6 rfl (lv_at hl 1 rfl) ?_
  refine lv_iadd hx hb dX8_teach_7 ?_
  refine lv_topi (fun x1 ex1 => ?_)
  have ex1 : 65 = x1 := (ex1.trans (by decide)).symm
  subst ex1
  refine lv_iload_n hx hb dX8_teach_8 rfl (lv_at hl 2 rfl) ?_
  refine va_iast hx hb hK hP hD hS 1 0 rfl rfl (by unfold vp_in; decide) dX8_teach_9 (fun H locs hP hD hS => ?_)
  obtain ⟨wf2, ewf2⟩ : ∃ z : Nat → Int32, z = upd f (65 : Int32).toNatClampNeg v := ⟨_, rfl⟩
  rw [← ewf2] at hP hD
  have wf2_0 : wf2 0 = 6 := by rw [ewf2]; exact (pk_un (by decide)).trans f_0
  have wf2_1 : wf2 1 = n1 := by rw [ewf2]; exact (pk_un (by decide)).trans f_1
  have wf2_2 : wf2 2 = n2 := by rw [ewf2]; exact (pk_un (by decide)).trans f_2
  have wf2_60 : wf2 60 = t0 := by rw [ewf2]; exact (pk_un (by decide)).trans f_60
  have wf2_61 : wf2 61 = t1 := by rw [ewf2]; exact (pk_un (by decide)).trans f_61
  have wf2_62 : wf2 62 = t2 := by rw [ewf2]; exact (pk_un (by decide)).trans f_62
  have wf2_63 : wf2 63 = t3 := by rw [ewf2]; exact (pk_un (by decide)).trans f_63
  have wf2_64 : wf2 64 = t4 := by rw [ewf2]; exact (pk_un (by decide)).trans f_64
  have wf2_65 : wf2 65 = v := by rw [ewf2]; exact pk_us
  have nk_wf2 : nok wf2 := by rw [ewf2]; exact nok_out nk_f (by decide) (by decide)
  have hP : va_P (dC, dI) vwCl [(h0, .inr (6, [.ref r_refused, .ref r_now, .ref r_then, .ref r_before, .ref r_asIs, .int i_kept, .ref r_tape, .int i_taped, .int i_at, .int i_well, .ref r_begins, .ref r_kinds, .int i_sort, .ref r_field, .ref r_willTeach, .ref r_isBack, .ref r_told, .ref r_bestSeats, .ref r_firstSeats, .int i_bestPass, .int i_bestAll, .int i_leastAll, .int i_fits, .int i_mayBeForged, .int i_restMany, .int i_restAll, .int i_restMost, .int i_mostAll, .ref r_restLearn, .ref r_marksNow, .ref r_row, .int i_rows, .int i_seed])), (r_now, .inl (cI, 80, .inl wf2))] H := hP
  have hD : va_D A [(h0, .inr (6, [.ref r_refused, .ref r_now, .ref r_then, .ref r_before, .ref r_asIs, .int i_kept, .ref r_tape, .int i_taped, .int i_at, .int i_well, .ref r_begins, .ref r_kinds, .int i_sort, .ref r_field, .ref r_willTeach, .ref r_isBack, .ref r_told, .ref r_bestSeats, .ref r_firstSeats, .int i_bestPass, .int i_bestAll, .int i_leastAll, .int i_fits, .int i_mayBeForged, .int i_restMany, .int i_restAll, .int i_restMost, .int i_mostAll, .ref r_restLearn, .ref r_marksNow, .ref r_row, .int i_rows, .int i_seed])), (r_now, .inl (cI, 80, .inl wf2))] := hD
  refine lv_aload_n hx hb dX8_teach_10 rfl (lv_at hl 0 rfl) ?_
  refine va_get (D := (dC, dI)) (ci := 6) (v := .ref r_now) (C := RX8) (T := TX8) (N := 33) hx hb hts iX8 hown hK hP 0 rfl rfl 1 (by decide) (hts (.fieldLink RX8 13 "NeighboursMarkModel" "now" "[I") (vm_at 1 rfl)) (fun _ h9 => h9) rfl dX8_teach_11 ?_
  refine lv_bipush (v := 50) hx hb dX8_teach_14 (by decide) ?_
  refine lv_iload_n hx hb dX8_teach_16 rfl (lv_at hl 1 rfl) ?_
  refine lv_iadd hx hb dX8_teach_17 ?_
  refine lv_topi (fun x3 ex3 => ?_)
  have ex3 : 55 = x3 := (ex3.trans (by decide)).symm
  subst ex3
  refine lv_aload_n hx hb dX8_teach_18 rfl (lv_at hl 0 rfl) ?_
  refine va_get (D := (dC, dI)) (ci := 6) (v := .ref r_now) (C := RX8) (T := TX8) (N := 33) hx hb hts iX8 hown hK hP 0 rfl rfl 1 (by decide) (hts (.fieldLink RX8 13 "NeighboursMarkModel" "now" "[I") (vm_at 1 rfl)) (fun _ h9 => h9) rfl dX8_teach_19 ?_
  refine lv_iconst (v := 1) hx hb dX8_teach_22 (by decide) ?_
  refine va_iald hx hb hK hP 1 0 rfl rfl (by unfold vp_in; decide) dX8_teach_23 ?_
  refine lv_topi (fun x4 ex4 => ?_)
  have ex4 : n1 = x4 := (ex4.trans wf2_1).symm
  subst ex4
  refine lv_iload_n hx hb dX8_teach_24 rfl (lv_at hl 2 rfl) ?_
  refine lv_isub hx hb dX8_teach_25 ?_
  refine lv_topi (fun x5 ex5 => ?_)
  refine va_iast hx hb hK hP hD hS 1 0 rfl rfl (by unfold vp_in; decide) dX8_teach_26 (fun H locs hP hD hS => ?_)
  obtain ⟨wf6, ewf6⟩ : ∃ z : Nat → Int32, z = upd wf2 (55 : Int32).toNatClampNeg x5 := ⟨_, rfl⟩
  rw [← ewf6] at hP hD
  have wf6_0 : wf6 0 = 6 := by rw [ewf6]; exact (pk_un (by decide)).trans wf2_0
  have wf6_1 : wf6 1 = n1 := by rw [ewf6]; exact (pk_un (by decide)).trans wf2_1
  have wf6_2 : wf6 2 = n2 := by rw [ewf6]; exact (pk_un (by decide)).trans wf2_2
  have wf6_60 : wf6 60 = t0 := by rw [ewf6]; exact (pk_un (by decide)).trans wf2_60
  have wf6_61 : wf6 61 = t1 := by rw [ewf6]; exact (pk_un (by decide)).trans wf2_61
  have wf6_62 : wf6 62 = t2 := by rw [ewf6]; exact (pk_un (by decide)).trans wf2_62
  have wf6_63 : wf6 63 = t3 := by rw [ewf6]; exact (pk_un (by decide)).trans wf2_63
  have wf6_64 : wf6 64 = t4 := by rw [ewf6]; exact (pk_un (by decide)).trans wf2_64
  have wf6_65 : wf6 65 = v := by rw [ewf6]; exact (pk_un (by decide)).trans wf2_65
  have nk_wf6 : nok wf6 := by rw [ewf6]; exact nok_out nk_wf2 (by decide) (by decide)
  have hP : va_P (dC, dI) vwCl [(h0, .inr (6, [.ref r_refused, .ref r_now, .ref r_then, .ref r_before, .ref r_asIs, .int i_kept, .ref r_tape, .int i_taped, .int i_at, .int i_well, .ref r_begins, .ref r_kinds, .int i_sort, .ref r_field, .ref r_willTeach, .ref r_isBack, .ref r_told, .ref r_bestSeats, .ref r_firstSeats, .int i_bestPass, .int i_bestAll, .int i_leastAll, .int i_fits, .int i_mayBeForged, .int i_restMany, .int i_restAll, .int i_restMost, .int i_mostAll, .ref r_restLearn, .ref r_marksNow, .ref r_row, .int i_rows, .int i_seed])), (r_now, .inl (cI, 80, .inl wf6))] H := hP
  have hD : va_D A [(h0, .inr (6, [.ref r_refused, .ref r_now, .ref r_then, .ref r_before, .ref r_asIs, .int i_kept, .ref r_tape, .int i_taped, .int i_at, .int i_well, .ref r_begins, .ref r_kinds, .int i_sort, .ref r_field, .ref r_willTeach, .ref r_isBack, .ref r_told, .ref r_bestSeats, .ref r_firstSeats, .int i_bestPass, .int i_bestAll, .int i_leastAll, .int i_fits, .int i_mayBeForged, .int i_restMany, .int i_restAll, .int i_restMost, .int i_mostAll, .ref r_restLearn, .ref r_marksNow, .ref r_row, .int i_rows, .int i_seed])), (r_now, .inl (cI, 80, .inl wf6))] := hD
  exact vx_vret (u := ((fun k => ([] : List Int32).getD k 0), (fun k => ([wf6] : List (Nat → Int32)).getD k (fun _ => 0)))) hx hb hr hlocks hK hP hD hS [0, 1] rfl (by decide) ⟨nk_wf6, wf6_0, wf6_1, wf6_2, wf6_60, wf6_61, wf6_62, wf6_63, wf6_64, wf6_65, trivial⟩ dX8_teach_27
