set_option maxHeartbeats 8000000 in
set_option maxRecDepth 100000 in
theorem r_oneOfB (l : Launch) (dC : Nat → ClassId) (dI : Nat → Nat → Nat) (cI cC cZ : ClassId) (sz : Nat) (h0 r_begins r_refused r_now r_then r_before r_asIs r_tape r_kinds r_field r_willTeach r_isBack r_told r_bestSeats r_firstSeats r_restLearn r_marksNow r_row : Nat) (i_kept i_taped i_at i_well i_sort i_bestPass i_bestAll i_leastAll i_fits i_mayBeForged i_restMany i_restAll i_restMost i_mostAll i_rows i_seed : Int32) (tf bg : Nat → Int32) (b_i_kept : 0 ≤ i_kept.toInt ∧ i_kept.toInt ≤ 1) (b_i_taped : 0 ≤ i_taped.toInt ∧ i_taped.toInt ≤ 64) (b_i_at : 0 ≤ i_at.toInt ∧ i_at.toInt ≤ 64) (b_i_well : 0 ≤ i_well.toInt ∧ i_well.toInt ≤ 1) (b_i_sort : 0 ≤ i_sort.toInt ∧ i_sort.toInt ≤ 6) (b_i_rows : 0 ≤ i_rows.toInt ∧ i_rows.toInt ≤ 6) (bg_0 : bg 0 = 112) (bg_1 : bg 1 = 104) (bg_2 : bg 2 = 108) (bg_3 : bg 3 = 114) (bg_4 : bg 4 = 119) (bg_5 : bg 5 = 120) (bg_6 : bg 6 = 109) : Met l yX8_oneOf wsX8_oneOf ({ frames := 0, cells := 0, slots := 0, locals := 0 }) (va_Pc [.ref h0, .ref r_begins] (vx_B (dC, dI) (vx_T cI cC cZ) sz [(h0, .inr (6, [.ref r_refused, .ref r_now, .ref r_then, .ref r_before, .ref r_asIs, .int i_kept, .ref r_tape, .int i_taped, .int i_at, .int i_well, .ref r_begins, .ref r_kinds, .int i_sort, .ref r_field, .ref r_willTeach, .ref r_isBack, .ref r_told, .ref r_bestSeats, .ref r_firstSeats, .int i_bestPass, .int i_bestAll, .int i_leastAll, .int i_fits, .int i_mayBeForged, .int i_restMany, .int i_restAll, .int i_restMost, .int i_mostAll, .ref r_restLearn, .ref r_marksNow, .ref r_row, .int i_rows, .int i_seed])), (r_tape, .inl (cI, 64, .inl tf)), (r_begins, .inl (cC, 7, .inl bg))])) (va_Qi (fun (r : Int32) (u : (Nat → Int32) × (Nat → Nat → Int32)) => (0 ≤ r.toInt ∧ r.toInt ≤ 6) ∧ (0 ≤ (u.1 0).toInt ∧ (u.1 0).toInt ≤ 64) ∧ (0 ≤ (u.1 1).toInt ∧ (u.1 1).toInt ≤ 1) ∧ (OneB tf i_taped.toInt i_well.toInt i_at.toInt r.toInt (u.1 0).toInt (u.1 1).toInt) ∧ True) (vx_C (dC, dI) (vx_T cI cC cZ) (va_A [(h0, .inr (6, [.ref r_refused, .ref r_now, .ref r_then, .ref r_before, .ref r_asIs, .int i_kept, .ref r_tape, .int i_taped, .int i_at, .int i_well, .ref r_begins, .ref r_kinds, .int i_sort, .ref r_field, .ref r_willTeach, .ref r_isBack, .ref r_told, .ref r_bestSeats, .ref r_firstSeats, .int i_bestPass, .int i_bestAll, .int i_leastAll, .int i_fits, .int i_mayBeForged, .int i_restMany, .int i_restAll, .int i_restMost, .int i_mostAll, .ref r_restLearn, .ref r_marksNow, .ref r_row, .int i_rows, .int i_seed])), (r_tape, .inl (cI, 64, .inl tf)), (r_begins, .inl (cC, 7, .inl bg))] sz) (fun (u : (Nat → Int32) × (Nat → Nat → Int32)) => [(h0, .inr (6, [.ref r_refused, .ref r_now, .ref r_then, .ref r_before, .ref r_asIs, .int i_kept, .ref r_tape, .int i_taped, .int (u.1 0), .int (u.1 1), .ref r_begins, .ref r_kinds, .int i_sort, .ref r_field, .ref r_willTeach, .ref r_isBack, .ref r_told, .ref r_bestSeats, .ref r_firstSeats, .int i_bestPass, .int i_bestAll, .int i_leastAll, .int i_fits, .int i_mayBeForged, .int i_restMany, .int i_restAll, .int i_restMost, .int i_mostAll, .ref r_restLearn, .ref r_marksNow, .ref r_row, .int i_rows, .int i_seed])), (r_tape, .inl (cI, 64, .inl tf)), (r_begins, .inl (cC, 7, .inl bg))])) (va_A [(h0, .inr (6, [.ref r_refused, .ref r_now, .ref r_then, .ref r_before, .ref r_asIs, .int i_kept, .ref r_tape, .int i_taped, .int i_at, .int i_well, .ref r_begins, .ref r_kinds, .int i_sort, .ref r_field, .ref r_willTeach, .ref r_isBack, .ref r_told, .ref r_bestSeats, .ref r_firstSeats, .int i_bestPass, .int i_bestAll, .int i_leastAll, .int i_fits, .int i_mayBeForged, .int i_restMany, .int i_restAll, .int i_restMost, .int i_mostAll, .ref r_restLearn, .ref r_marksNow, .ref r_row, .int i_rows, .int i_seed])), (r_tape, .inl (cI, 64, .inl tf)), (r_begins, .inl (cC, 7, .inl bg))] sz)) 0 0 (va_A [(h0, .inr (6, [.ref r_refused, .ref r_now, .ref r_then, .ref r_before, .ref r_asIs, .int i_kept, .ref r_tape, .int i_taped, .int i_at, .int i_well, .ref r_begins, .ref r_kinds, .int i_sort, .ref r_field, .ref r_willTeach, .ref r_isBack, .ref r_told, .ref r_bestSeats, .ref r_firstSeats, .int i_bestPass, .int i_bestAll, .int i_leastAll, .int i_fits, .int i_mayBeForged, .int i_restMany, .int i_restAll, .int i_restMost, .int i_mostAll, .ref r_restLearn, .ref r_marksNow, .ref r_row, .int i_rows, .int i_seed])), (r_tape, .inl (cI, 64, .inl tf)), (r_begins, .inl (cC, 7, .inl bg))] sz) := by
  refine Met.ofW (cc := cX8_oneOf) (maxL := 4) (ret := (some .int)) (by decide) rfl ?_
  intro p e s m args below meth c s₁ B hml hv
  obtain ⟨rfl, hsz, hP, hK, hD0, hN⟩ := hv
  have hx := B.exec
  have hb := B.bytes
  have hr := B.returns
  have hts := atoms_spec (ws := wsX8_oneOf) B.pre
  have hown : s.vm.findClass RX8 = some m.cls := findClass_of_methodNamed B.named
  have hlocks := B.notSynchronized
  subst hsz
  have hD := hD0.self (sz := s.heap.size)
  generalize hAe : va_A [(h0, .inr (6, [.ref r_refused, .ref r_now, .ref r_then, .ref r_before, .ref r_asIs, .int i_kept, .ref r_tape, .int i_taped, .int i_at, .int i_well, .ref r_begins, .ref r_kinds, .int i_sort, .ref r_field, .ref r_willTeach, .ref r_isBack, .ref r_told, .ref r_bestSeats, .ref r_firstSeats, .int i_bestPass, .int i_bestAll, .int i_leastAll, .int i_fits, .int i_mayBeForged, .int i_restMany, .int i_restAll, .int i_restMost, .int i_mostAll, .ref r_restLearn, .ref r_marksNow, .ref r_row, .int i_rows, .int i_seed])), (r_tape, .inl (cI, 64, .inl tf)), (r_begins, .inl (cC, 7, .inl bg))] s.heap.size = A at hD hN ⊢
  have hA : ∀ q : Nat, s.heap.size ≤ q → A q := fun q h => by rw [← hAe]; exact Or.inr h
  have hS : va_S A s.heap s.heap [] := va_S.rf
  have hl := lv_entry ([.ref h0, .ref r_begins]) (n := 4) (Nat.le_of_ble_eq_true rfl)
  rw [lg_entry_eq]
  generalize (lg_sl ([.ref h0, .ref r_begins]) ++ List.replicate (4 - (lg_sl ([.ref h0, .ref r_begins])).length) Slot.unset).toArray = ls at hl ⊢
  have hl : lv_has ls 4 [(0, .ref h0), (1, .ref r_begins)] := hl
  have iX8 : ∀ w ∈ u_ws RX8 TX8 33, w ∈ wsX8_oneOf := fun w h => (List.mem_cons_of_mem _ (List.mem_append_right _ h))
  refine lv_iconst (v := (-1)) hx hb dX8_oneOf_0 (by decide) ?_
  refine lv_istore_n (lv' := [(2, .int (-1)), (0, .ref h0), (1, .ref r_begins)]) hx hb dX8_oneOf_1 rfl hl (by decide) rfl (fun ls hl => ?_)
  refine lv_iconst (v := 0) hx hb dX8_oneOf_2 (by decide) ?_
  refine lv_istore_n (lv' := [(3, .int 0), (2, .int (-1)), (0, .ref h0), (1, .ref r_begins)]) hx hb dX8_oneOf_3 rfl hl (by decide) rfl (fun ls hl => ?_)
  refine lv_iload_n hx hb dX8_oneOf_4 rfl (lv_at hl 0 rfl) ?_
  refine lv_aload_n hx hb dX8_oneOf_5 rfl (lv_at hl 3 rfl) ?_
  refine va_alen hx hb hK hP 2 1 rfl rfl (v := 7) rfl dX8_oneOf_6 ?_
  refine lv_icmp_ge (tgt := 55) hx hb dX8_oneOf_7 (by decide) (fun c0 => absurd c0 (by decide)) (fun _ => ?_)
  refine lv_aload_n hx hb dX8_oneOf_10 rfl (lv_at hl 2 rfl) ?_
  refine va_get (D := (dC, dI)) (ci := 6) (v := .int i_well) (C := RX8) (T := TX8) (N := 33) hx hb hts iX8 hown hK hP 0 rfl rfl 9 (by decide) (hts (.fieldLink RX8 79 "NeighboursMarkModel" "well" "Z") (vm_at 1 rfl)) (fun _ h9 => h9) rfl dX8_oneOf_11 ?_
  refine lv_if_eq (tgt := 55) hx hb dX8_oneOf_14 (by decide) (fun c1 => ?_) (fun c1 => ?_)
  · have c1 : i_well.toInt = 0 := vy_eq c1
    refine lv_iload_n hx hb dX8_oneOf_55 rfl (lv_at hl 1 rfl) ?_
    refine lv_if_ge (tgt := 66) hx hb dX8_oneOf_56 (by decide) (fun c0 => absurd c0 (by decide)) (fun _ => ?_)
    refine lv_aload_n hx hb dX8_oneOf_59 rfl (lv_at hl 2 rfl) ?_
    refine lv_iconst (v := 0) hx hb dX8_oneOf_60 (by decide) ?_
    refine va_put (D := (dC, dI)) (ci := 6) (v := .int 0) (ty := .boolean) (C := RX8) (T := TX8) (N := 33) hx hb hts iX8 tyX8 tyX8_ok nmX8 hown hK hP hD hS 0 rfl rfl 9 (by decide) (hts (.fieldLink RX8 79 "NeighboursMarkModel" "well" "Z") (vm_at 1 rfl)) (fun _ h9 => h9) rfl (tyX8_ok 9 (by decide)) rfl rfl (Nat.le_of_ble_eq_true rfl) dX8_oneOf_61 (fun H locs hP hD hS => ?_)
    have hP : va_P (dC, dI) vwCl [(h0, .inr (6, [.ref r_refused, .ref r_now, .ref r_then, .ref r_before, .ref r_asIs, .int i_kept, .ref r_tape, .int i_taped, .int i_at, .int 0, .ref r_begins, .ref r_kinds, .int i_sort, .ref r_field, .ref r_willTeach, .ref r_isBack, .ref r_told, .ref r_bestSeats, .ref r_firstSeats, .int i_bestPass, .int i_bestAll, .int i_leastAll, .int i_fits, .int i_mayBeForged, .int i_restMany, .int i_restAll, .int i_restMost, .int i_mostAll, .ref r_restLearn, .ref r_marksNow, .ref r_row, .int i_rows, .int i_seed])), (r_tape, .inl (cI, 64, .inl tf)), (r_begins, .inl (cC, 7, .inl bg))] H := hP
    have hD : va_D A [(h0, .inr (6, [.ref r_refused, .ref r_now, .ref r_then, .ref r_before, .ref r_asIs, .int i_kept, .ref r_tape, .int i_taped, .int i_at, .int 0, .ref r_begins, .ref r_kinds, .int i_sort, .ref r_field, .ref r_willTeach, .ref r_isBack, .ref r_told, .ref r_bestSeats, .ref r_firstSeats, .int i_bestPass, .int i_bestAll, .int i_leastAll, .int i_fits, .int i_mayBeForged, .int i_restMany, .int i_restAll, .int i_restMost, .int i_mostAll, .ref r_restLearn, .ref r_marksNow, .ref r_row, .int i_rows, .int i_seed])), (r_tape, .inl (cI, 64, .inl tf)), (r_begins, .inl (cC, 7, .inl bg))] := hD
    refine lv_iconst (v := 0) hx hb dX8_oneOf_64 (by decide) ?_
    exact vx_iret (u := ((fun k => ([i_at, 0] : List Int32).getD k 0), (fun k => ([] : List (Nat → Int32)).getD k (fun _ => 0)))) hx hb hr hlocks hK hP hD hS [0, 1, 2] rfl (by decide) ⟨(by decide), (show 0 ≤ i_at.toInt ∧ i_at.toInt ≤ 64 from ⟨by omega, by omega⟩), (show 0 ≤ (0 : Int32).toInt ∧ (0 : Int32).toInt ≤ 1 by decide), (show OneB tf i_taped.toInt i_well.toInt i_at.toInt 0 i_at.toInt 0 from (by unfold OneB; omega)), trivial⟩ dX8_oneOf_65
  · have c1 : i_well.toInt ≠ 0 := vy_ne c1
    refine lv_iload_n hx hb dX8_oneOf_17 rfl (lv_at hl 1 rfl) ?_
    refine lv_if_ge (tgt := 55) hx hb dX8_oneOf_18 (by decide) (fun c0 => absurd c0 (by decide)) (fun _ => ?_)
    refine lv_aload_n hx hb dX8_oneOf_21 rfl (lv_at hl 2 rfl) ?_
    refine va_get (D := (dC, dI)) (ci := 6) (v := .int i_at) (C := RX8) (T := TX8) (N := 33) hx hb hts iX8 hown hK hP 0 rfl rfl 8 (by decide) (hts (.fieldLink RX8 82 "NeighboursMarkModel" "at" "I") (vm_at 2 rfl)) (fun _ h9 => h9) rfl dX8_oneOf_22 ?_
    refine lv_aload_n hx hb dX8_oneOf_25 rfl (lv_at hl 2 rfl) ?_
    refine va_get (D := (dC, dI)) (ci := 6) (v := .int i_taped) (C := RX8) (T := TX8) (N := 33) hx hb hts iX8 hown hK hP 0 rfl rfl 7 (by decide) (hts (.fieldLink RX8 75 "NeighboursMarkModel" "taped" "I") (vm_at 3 rfl)) (fun _ h9 => h9) rfl dX8_oneOf_26 ?_
    refine lv_icmp_ge (tgt := 49) hx hb dX8_oneOf_29 (by decide) (fun c2 => ?_) (fun c2 => ?_)
    · have c2 : i_at.toInt ≥ i_taped.toInt := vy_le c2
      refine lv_iinc (v := 1) (lv' := [(3, .int 1), (2, .int (-1)), (0, .ref h0), (1, .ref r_begins)]) hx hb dX8_oneOf_49 hl (k := 0) rfl (by decide) (by decide) rfl (fun ls hl => ?_)
      refine lv_goto (tgt := 4) hx hb dX8_oneOf_52 (by decide) ?_
      refine lv_iload_n hx hb dX8_oneOf_4 rfl (lv_at hl 0 rfl) ?_
      refine lv_aload_n hx hb dX8_oneOf_5 rfl (lv_at hl 3 rfl) ?_
      refine va_alen hx hb hK hP 2 1 rfl rfl (v := 7) rfl dX8_oneOf_6 ?_
      refine lv_icmp_ge (tgt := 55) hx hb dX8_oneOf_7 (by decide) (fun c0 => absurd c0 (by decide)) (fun _ => ?_)
      refine lv_aload_n hx hb dX8_oneOf_10 rfl (lv_at hl 2 rfl) ?_
      refine va_get (D := (dC, dI)) (ci := 6) (v := .int i_well) (C := RX8) (T := TX8) (N := 33) hx hb hts iX8 hown hK hP 0 rfl rfl 9 (by decide) (hts (.fieldLink RX8 79 "NeighboursMarkModel" "well" "Z") (vm_at 1 rfl)) (fun _ h9 => h9) rfl dX8_oneOf_11 ?_
      refine lv_if_eq (tgt := 55) hx hb dX8_oneOf_14 (by decide) (fun c3 => by exfalso; have h9 : i_well.toInt = 0 := vy_eq c3; omega) (fun c3 => ?_)
      have c3 : i_well.toInt ≠ 0 := vy_ne c3
      refine lv_iload_n hx hb dX8_oneOf_17 rfl (lv_at hl 1 rfl) ?_
      refine lv_if_ge (tgt := 55) hx hb dX8_oneOf_18 (by decide) (fun c0 => absurd c0 (by decide)) (fun _ => ?_)
      refine lv_aload_n hx hb dX8_oneOf_21 rfl (lv_at hl 2 rfl) ?_
      refine va_get (D := (dC, dI)) (ci := 6) (v := .int i_at) (C := RX8) (T := TX8) (N := 33) hx hb hts iX8 hown hK hP 0 rfl rfl 8 (by decide) (hts (.fieldLink RX8 82 "NeighboursMarkModel" "at" "I") (vm_at 2 rfl)) (fun _ h9 => h9) rfl dX8_oneOf_22 ?_
      refine lv_aload_n hx hb dX8_oneOf_25 rfl (lv_at hl 2 rfl) ?_
      refine va_get (D := (dC, dI)) (ci := 6) (v := .int i_taped) (C := RX8) (T := TX8) (N := 33) hx hb hts iX8 hown hK hP 0 rfl rfl 7 (by decide) (hts (.fieldLink RX8 75 "NeighboursMarkModel" "taped" "I") (vm_at 3 rfl)) (fun _ h9 => h9) rfl dX8_oneOf_26 ?_
      refine lv_icmp_ge (tgt := 49) hx hb dX8_oneOf_29 (by decide) (fun c4 => ?_) (fun c4 => by exfalso; have h9 : i_at.toInt < i_taped.toInt := vy_nle c4; omega)
      have c4 : i_at.toInt ≥ i_taped.toInt := vy_le c4
      refine lv_iinc (v := 2) (lv' := [(3, .int 2), (2, .int (-1)), (0, .ref h0), (1, .ref r_begins)]) hx hb dX8_oneOf_49 hl (k := 0) rfl (by decide) (by decide) rfl (fun ls hl => ?_)
      refine lv_goto (tgt := 4) hx hb dX8_oneOf_52 (by decide) ?_
      refine lv_iload_n hx hb dX8_oneOf_4 rfl (lv_at hl 0 rfl) ?_
      refine lv_aload_n hx hb dX8_oneOf_5 rfl (lv_at hl 3 rfl) ?_
      refine va_alen hx hb hK hP 2 1 rfl rfl (v := 7) rfl dX8_oneOf_6 ?_
      refine lv_icmp_ge (tgt := 55) hx hb dX8_oneOf_7 (by decide) (fun c0 => absurd c0 (by decide)) (fun _ => ?_)
      refine lv_aload_n hx hb dX8_oneOf_10 rfl (lv_at hl 2 rfl) ?_
      refine va_get (D := (dC, dI)) (ci := 6) (v := .int i_well) (C := RX8) (T := TX8) (N := 33) hx hb hts iX8 hown hK hP 0 rfl rfl 9 (by decide) (hts (.fieldLink RX8 79 "NeighboursMarkModel" "well" "Z") (vm_at 1 rfl)) (fun _ h9 => h9) rfl dX8_oneOf_11 ?_
      refine lv_if_eq (tgt := 55) hx hb dX8_oneOf_14 (by decide) (fun c5 => by exfalso; have h9 : i_well.toInt = 0 := vy_eq c5; omega) (fun c5 => ?_)
      have c5 : i_well.toInt ≠ 0 := vy_ne c5
      refine lv_iload_n hx hb dX8_oneOf_17 rfl (lv_at hl 1 rfl) ?_
      refine lv_if_ge (tgt := 55) hx hb dX8_oneOf_18 (by decide) (fun c0 => absurd c0 (by decide)) (fun _ => ?_)
      refine lv_aload_n hx hb dX8_oneOf_21 rfl (lv_at hl 2 rfl) ?_
      refine va_get (D := (dC, dI)) (ci := 6) (v := .int i_at) (C := RX8) (T := TX8) (N := 33) hx hb hts iX8 hown hK hP 0 rfl rfl 8 (by decide) (hts (.fieldLink RX8 82 "NeighboursMarkModel" "at" "I") (vm_at 2 rfl)) (fun _ h9 => h9) rfl dX8_oneOf_22 ?_
      refine lv_aload_n hx hb dX8_oneOf_25 rfl (lv_at hl 2 rfl) ?_
      refine va_get (D := (dC, dI)) (ci := 6) (v := .int i_taped) (C := RX8) (T := TX8) (N := 33) hx hb hts iX8 hown hK hP 0 rfl rfl 7 (by decide) (hts (.fieldLink RX8 75 "NeighboursMarkModel" "taped" "I") (vm_at 3 rfl)) (fun _ h9 => h9) rfl dX8_oneOf_26 ?_
      refine lv_icmp_ge (tgt := 49) hx hb dX8_oneOf_29 (by decide) (fun c6 => ?_) (fun c6 => by exfalso; have h9 : i_at.toInt < i_taped.toInt := vy_nle c6; omega)
      have c6 : i_at.toInt ≥ i_taped.toInt := vy_le c6
      refine lv_iinc (v := 3) (lv' := [(3, .int 3), (2, .int (-1)), (0, .ref h0), (1, .ref r_begins)]) hx hb dX8_oneOf_49 hl (k := 0) rfl (by decide) (by decide) rfl (fun ls hl => ?_)
      refine lv_goto (tgt := 4) hx hb dX8_oneOf_52 (by decide) ?_
      refine lv_iload_n hx hb dX8_oneOf_4 rfl (lv_at hl 0 rfl) ?_
      refine lv_aload_n hx hb dX8_oneOf_5 rfl (lv_at hl 3 rfl) ?_
      refine va_alen hx hb hK hP 2 1 rfl rfl (v := 7) rfl dX8_oneOf_6 ?_
      refine lv_icmp_ge (tgt := 55) hx hb dX8_oneOf_7 (by decide) (fun c0 => absurd c0 (by decide)) (fun _ => ?_)
      refine lv_aload_n hx hb dX8_oneOf_10 rfl (lv_at hl 2 rfl) ?_
      refine va_get (D := (dC, dI)) (ci := 6) (v := .int i_well) (C := RX8) (T := TX8) (N := 33) hx hb hts iX8 hown hK hP 0 rfl rfl 9 (by decide) (hts (.fieldLink RX8 79 "NeighboursMarkModel" "well" "Z") (vm_at 1 rfl)) (fun _ h9 => h9) rfl dX8_oneOf_11 ?_
      refine lv_if_eq (tgt := 55) hx hb dX8_oneOf_14 (by decide) (fun c7 => by exfalso; have h9 : i_well.toInt = 0 := vy_eq c7; omega) (fun c7 => ?_)
      have c7 : i_well.toInt ≠ 0 := vy_ne c7
      refine lv_iload_n hx hb dX8_oneOf_17 rfl (lv_at hl 1 rfl) ?_
      refine lv_if_ge (tgt := 55) hx hb dX8_oneOf_18 (by decide) (fun c0 => absurd c0 (by decide)) (fun _ => ?_)
      refine lv_aload_n hx hb dX8_oneOf_21 rfl (lv_at hl 2 rfl) ?_
      refine va_get (D := (dC, dI)) (ci := 6) (v := .int i_at) (C := RX8) (T := TX8) (N := 33) hx hb hts iX8 hown hK hP 0 rfl rfl 8 (by decide) (hts (.fieldLink RX8 82 "NeighboursMarkModel" "at" "I") (vm_at 2 rfl)) (fun _ h9 => h9) rfl dX8_oneOf_22 ?_
      refine lv_aload_n hx hb dX8_oneOf_25 rfl (lv_at hl 2 rfl) ?_
      refine va_get (D := (dC, dI)) (ci := 6) (v := .int i_taped) (C := RX8) (T := TX8) (N := 33) hx hb hts iX8 hown hK hP 0 rfl rfl 7 (by decide) (hts (.fieldLink RX8 75 "NeighboursMarkModel" "taped" "I") (vm_at 3 rfl)) (fun _ h9 => h9) rfl dX8_oneOf_26 ?_
      refine lv_icmp_ge (tgt := 49) hx hb dX8_oneOf_29 (by decide) (fun c8 => ?_) (fun c8 => by exfalso; have h9 : i_at.toInt < i_taped.toInt := vy_nle c8; omega)
      have c8 : i_at.toInt ≥ i_taped.toInt := vy_le c8
      refine lv_iinc (v := 4) (lv' := [(3, .int 4), (2, .int (-1)), (0, .ref h0), (1, .ref r_begins)]) hx hb dX8_oneOf_49 hl (k := 0) rfl (by decide) (by decide) rfl (fun ls hl => ?_)
      refine lv_goto (tgt := 4) hx hb dX8_oneOf_52 (by decide) ?_
      refine lv_iload_n hx hb dX8_oneOf_4 rfl (lv_at hl 0 rfl) ?_
      refine lv_aload_n hx hb dX8_oneOf_5 rfl (lv_at hl 3 rfl) ?_
      refine va_alen hx hb hK hP 2 1 rfl rfl (v := 7) rfl dX8_oneOf_6 ?_
      refine lv_icmp_ge (tgt := 55) hx hb dX8_oneOf_7 (by decide) (fun c0 => absurd c0 (by decide)) (fun _ => ?_)
      refine lv_aload_n hx hb dX8_oneOf_10 rfl (lv_at hl 2 rfl) ?_
      refine va_get (D := (dC, dI)) (ci := 6) (v := .int i_well) (C := RX8) (T := TX8) (N := 33) hx hb hts iX8 hown hK hP 0 rfl rfl 9 (by decide) (hts (.fieldLink RX8 79 "NeighboursMarkModel" "well" "Z") (vm_at 1 rfl)) (fun _ h9 => h9) rfl dX8_oneOf_11 ?_
      refine lv_if_eq (tgt := 55) hx hb dX8_oneOf_14 (by decide) (fun c9 => by exfalso; have h9 : i_well.toInt = 0 := vy_eq c9; omega) (fun c9 => ?_)
      have c9 : i_well.toInt ≠ 0 := vy_ne c9
      refine lv_iload_n hx hb dX8_oneOf_17 rfl (lv_at hl 1 rfl) ?_
      refine lv_if_ge (tgt := 55) hx hb dX8_oneOf_18 (by decide) (fun c0 => absurd c0 (by decide)) (fun _ => ?_)
      refine lv_aload_n hx hb dX8_oneOf_21 rfl (lv_at hl 2 rfl) ?_
      refine va_get (D := (dC, dI)) (ci := 6) (v := .int i_at) (C := RX8) (T := TX8) (N := 33) hx hb hts iX8 hown hK hP 0 rfl rfl 8 (by decide) (hts (.fieldLink RX8 82 "NeighboursMarkModel" "at" "I") (vm_at 2 rfl)) (fun _ h9 => h9) rfl dX8_oneOf_22 ?_
      refine lv_aload_n hx hb dX8_oneOf_25 rfl (lv_at hl 2 rfl) ?_
      refine va_get (D := (dC, dI)) (ci := 6) (v := .int i_taped) (C := RX8) (T := TX8) (N := 33) hx hb hts iX8 hown hK hP 0 rfl rfl 7 (by decide) (hts (.fieldLink RX8 75 "NeighboursMarkModel" "taped" "I") (vm_at 3 rfl)) (fun _ h9 => h9) rfl dX8_oneOf_26 ?_
      refine lv_icmp_ge (tgt := 49) hx hb dX8_oneOf_29 (by decide) (fun c10 => ?_) (fun c10 => by exfalso; have h9 : i_at.toInt < i_taped.toInt := vy_nle c10; omega)
      have c10 : i_at.toInt ≥ i_taped.toInt := vy_le c10
      refine lv_iinc (v := 5) (lv' := [(3, .int 5), (2, .int (-1)), (0, .ref h0), (1, .ref r_begins)]) hx hb dX8_oneOf_49 hl (k := 0) rfl (by decide) (by decide) rfl (fun ls hl => ?_)
      refine lv_goto (tgt := 4) hx hb dX8_oneOf_52 (by decide) ?_
      refine lv_iload_n hx hb dX8_oneOf_4 rfl (lv_at hl 0 rfl) ?_
      refine lv_aload_n hx hb dX8_oneOf_5 rfl (lv_at hl 3 rfl) ?_
      refine va_alen hx hb hK hP 2 1 rfl rfl (v := 7) rfl dX8_oneOf_6 ?_
      refine lv_icmp_ge (tgt := 55) hx hb dX8_oneOf_7 (by decide) (fun c0 => absurd c0 (by decide)) (fun _ => ?_)
      refine lv_aload_n hx hb dX8_oneOf_10 rfl (lv_at hl 2 rfl) ?_
      refine va_get (D := (dC, dI)) (ci := 6) (v := .int i_well) (C := RX8) (T := TX8) (N := 33) hx hb hts iX8 hown hK hP 0 rfl rfl 9 (by decide) (hts (.fieldLink RX8 79 "NeighboursMarkModel" "well" "Z") (vm_at 1 rfl)) (fun _ h9 => h9) rfl dX8_oneOf_11 ?_
      refine lv_if_eq (tgt := 55) hx hb dX8_oneOf_14 (by decide) (fun c11 => by exfalso; have h9 : i_well.toInt = 0 := vy_eq c11; omega) (fun c11 => ?_)
      have c11 : i_well.toInt ≠ 0 := vy_ne c11
      refine lv_iload_n hx hb dX8_oneOf_17 rfl (lv_at hl 1 rfl) ?_
      refine lv_if_ge (tgt := 55) hx hb dX8_oneOf_18 (by decide) (fun c0 => absurd c0 (by decide)) (fun _ => ?_)
      refine lv_aload_n hx hb dX8_oneOf_21 rfl (lv_at hl 2 rfl) ?_
      refine va_get (D := (dC, dI)) (ci := 6) (v := .int i_at) (C := RX8) (T := TX8) (N := 33) hx hb hts iX8 hown hK hP 0 rfl rfl 8 (by decide) (hts (.fieldLink RX8 82 "NeighboursMarkModel" "at" "I") (vm_at 2 rfl)) (fun _ h9 => h9) rfl dX8_oneOf_22 ?_
      refine lv_aload_n hx hb dX8_oneOf_25 rfl (lv_at hl 2 rfl) ?_
      refine va_get (D := (dC, dI)) (ci := 6) (v := .int i_taped) (C := RX8) (T := TX8) (N := 33) hx hb hts iX8 hown hK hP 0 rfl rfl 7 (by decide) (hts (.fieldLink RX8 75 "NeighboursMarkModel" "taped" "I") (vm_at 3 rfl)) (fun _ h9 => h9) rfl dX8_oneOf_26 ?_
      refine lv_icmp_ge (tgt := 49) hx hb dX8_oneOf_29 (by decide) (fun c12 => ?_) (fun c12 => by exfalso; have h9 : i_at.toInt < i_taped.toInt := vy_nle c12; omega)
      have c12 : i_at.toInt ≥ i_taped.toInt := vy_le c12
      refine lv_iinc (v := 6) (lv' := [(3, .int 6), (2, .int (-1)), (0, .ref h0), (1, .ref r_begins)]) hx hb dX8_oneOf_49 hl (k := 0) rfl (by decide) (by decide) rfl (fun ls hl => ?_)
      refine lv_goto (tgt := 4) hx hb dX8_oneOf_52 (by decide) ?_
      refine lv_iload_n hx hb dX8_oneOf_4 rfl (lv_at hl 0 rfl) ?_
      refine lv_aload_n hx hb dX8_oneOf_5 rfl (lv_at hl 3 rfl) ?_
      refine va_alen hx hb hK hP 2 1 rfl rfl (v := 7) rfl dX8_oneOf_6 ?_
      refine lv_icmp_ge (tgt := 55) hx hb dX8_oneOf_7 (by decide) (fun c0 => absurd c0 (by decide)) (fun _ => ?_)
      refine lv_aload_n hx hb dX8_oneOf_10 rfl (lv_at hl 2 rfl) ?_
      refine va_get (D := (dC, dI)) (ci := 6) (v := .int i_well) (C := RX8) (T := TX8) (N := 33) hx hb hts iX8 hown hK hP 0 rfl rfl 9 (by decide) (hts (.fieldLink RX8 79 "NeighboursMarkModel" "well" "Z") (vm_at 1 rfl)) (fun _ h9 => h9) rfl dX8_oneOf_11 ?_
      refine lv_if_eq (tgt := 55) hx hb dX8_oneOf_14 (by decide) (fun c13 => by exfalso; have h9 : i_well.toInt = 0 := vy_eq c13; omega) (fun c13 => ?_)
      have c13 : i_well.toInt ≠ 0 := vy_ne c13
      refine lv_iload_n hx hb dX8_oneOf_17 rfl (lv_at hl 1 rfl) ?_
      refine lv_if_ge (tgt := 55) hx hb dX8_oneOf_18 (by decide) (fun c0 => absurd c0 (by decide)) (fun _ => ?_)
      refine lv_aload_n hx hb dX8_oneOf_21 rfl (lv_at hl 2 rfl) ?_
      refine va_get (D := (dC, dI)) (ci := 6) (v := .int i_at) (C := RX8) (T := TX8) (N := 33) hx hb hts iX8 hown hK hP 0 rfl rfl 8 (by decide) (hts (.fieldLink RX8 82 "NeighboursMarkModel" "at" "I") (vm_at 2 rfl)) (fun _ h9 => h9) rfl dX8_oneOf_22 ?_
      refine lv_aload_n hx hb dX8_oneOf_25 rfl (lv_at hl 2 rfl) ?_
      refine va_get (D := (dC, dI)) (ci := 6) (v := .int i_taped) (C := RX8) (T := TX8) (N := 33) hx hb hts iX8 hown hK hP 0 rfl rfl 7 (by decide) (hts (.fieldLink RX8 75 "NeighboursMarkModel" "taped" "I") (vm_at 3 rfl)) (fun _ h9 => h9) rfl dX8_oneOf_26 ?_
      refine lv_icmp_ge (tgt := 49) hx hb dX8_oneOf_29 (by decide) (fun c14 => ?_) (fun c14 => by exfalso; have h9 : i_at.toInt < i_taped.toInt := vy_nle c14; omega)
      have c14 : i_at.toInt ≥ i_taped.toInt := vy_le c14
      refine lv_iinc (v := 7) (lv' := [(3, .int 7), (2, .int (-1)), (0, .ref h0), (1, .ref r_begins)]) hx hb dX8_oneOf_49 hl (k := 0) rfl (by decide) (by decide) rfl (fun ls hl => ?_)
      refine lv_goto (tgt := 4) hx hb dX8_oneOf_52 (by decide) ?_
      refine lv_iload_n hx hb dX8_oneOf_4 rfl (lv_at hl 0 rfl) ?_
      refine lv_aload_n hx hb dX8_oneOf_5 rfl (lv_at hl 3 rfl) ?_
      refine va_alen hx hb hK hP 2 1 rfl rfl (v := 7) rfl dX8_oneOf_6 ?_
      refine lv_icmp_ge (tgt := 55) hx hb dX8_oneOf_7 (by decide) (fun _ => ?_) (fun c0 => absurd (by decide) c0)
      refine lv_iload_n hx hb dX8_oneOf_55 rfl (lv_at hl 1 rfl) ?_
      refine lv_if_ge (tgt := 66) hx hb dX8_oneOf_56 (by decide) (fun c0 => absurd c0 (by decide)) (fun _ => ?_)
      refine lv_aload_n hx hb dX8_oneOf_59 rfl (lv_at hl 2 rfl) ?_
      refine lv_iconst (v := 0) hx hb dX8_oneOf_60 (by decide) ?_
      refine va_put (D := (dC, dI)) (ci := 6) (v := .int 0) (ty := .boolean) (C := RX8) (T := TX8) (N := 33) hx hb hts iX8 tyX8 tyX8_ok nmX8 hown hK hP hD hS 0 rfl rfl 9 (by decide) (hts (.fieldLink RX8 79 "NeighboursMarkModel" "well" "Z") (vm_at 1 rfl)) (fun _ h9 => h9) rfl (tyX8_ok 9 (by decide)) rfl rfl (Nat.le_of_ble_eq_true rfl) dX8_oneOf_61 (fun H locs hP hD hS => ?_)
      have hP : va_P (dC, dI) vwCl [(h0, .inr (6, [.ref r_refused, .ref r_now, .ref r_then, .ref r_before, .ref r_asIs, .int i_kept, .ref r_tape, .int i_taped, .int i_at, .int 0, .ref r_begins, .ref r_kinds, .int i_sort, .ref r_field, .ref r_willTeach, .ref r_isBack, .ref r_told, .ref r_bestSeats, .ref r_firstSeats, .int i_bestPass, .int i_bestAll, .int i_leastAll, .int i_fits, .int i_mayBeForged, .int i_restMany, .int i_restAll, .int i_restMost, .int i_mostAll, .ref r_restLearn, .ref r_marksNow, .ref r_row, .int i_rows, .int i_seed])), (r_tape, .inl (cI, 64, .inl tf)), (r_begins, .inl (cC, 7, .inl bg))] H := hP
      have hD : va_D A [(h0, .inr (6, [.ref r_refused, .ref r_now, .ref r_then, .ref r_before, .ref r_asIs, .int i_kept, .ref r_tape, .int i_taped, .int i_at, .int 0, .ref r_begins, .ref r_kinds, .int i_sort, .ref r_field, .ref r_willTeach, .ref r_isBack, .ref r_told, .ref r_bestSeats, .ref r_firstSeats, .int i_bestPass, .int i_bestAll, .int i_leastAll, .int i_fits, .int i_mayBeForged, .int i_restMany, .int i_restAll, .int i_restMost, .int i_mostAll, .ref r_restLearn, .ref r_marksNow, .ref r_row, .int i_rows, .int i_seed])), (r_tape, .inl (cI, 64, .inl tf)), (r_begins, .inl (cC, 7, .inl bg))] := hD
      refine lv_iconst (v := 0) hx hb dX8_oneOf_64 (by decide) ?_
      exact vx_iret (u := ((fun k => ([i_at, 0] : List Int32).getD k 0), (fun k => ([] : List (Nat → Int32)).getD k (fun _ => 0)))) hx hb hr hlocks hK hP hD hS [0, 1, 2] rfl (by decide) ⟨(by decide), (show 0 ≤ i_at.toInt ∧ i_at.toInt ≤ 64 from ⟨by omega, by omega⟩), (show 0 ≤ (0 : Int32).toInt ∧ (0 : Int32).toInt ≤ 1 by decide), (show OneB tf i_taped.toInt i_well.toInt i_at.toInt 0 i_at.toInt 0 from (by unfold OneB; omega)), trivial⟩ dX8_oneOf_65
    · have c2 : i_at.toInt < i_taped.toInt := vy_nle c2
      refine lv_aload_n hx hb dX8_oneOf_32 rfl (lv_at hl 2 rfl) ?_
      refine va_get (D := (dC, dI)) (ci := 6) (v := .ref r_tape) (C := RX8) (T := TX8) (N := 33) hx hb hts iX8 hown hK hP 0 rfl rfl 6 (by decide) (hts (.fieldLink RX8 25 "NeighboursMarkModel" "tape" "[I") (vm_at 4 rfl)) (fun _ h9 => h9) rfl dX8_oneOf_33 ?_
      refine lv_aload_n hx hb dX8_oneOf_36 rfl (lv_at hl 2 rfl) ?_
      refine va_get (D := (dC, dI)) (ci := 6) (v := .int i_at) (C := RX8) (T := TX8) (N := 33) hx hb hts iX8 hown hK hP 0 rfl rfl 8 (by decide) (hts (.fieldLink RX8 82 "NeighboursMarkModel" "at" "I") (vm_at 2 rfl)) (fun _ h9 => h9) rfl dX8_oneOf_37 ?_
      refine va_iald hx hb hK hP 1 0 rfl rfl (vp_in_iff.mpr ⟨by omega, by omega⟩) dX8_oneOf_40 ?_
      refine lv_topi (fun x15 ex15 => ?_)
      have fx15 : x15.toInt = (tf i_at.toInt.toNat).toInt := by rw [ex15]; show (tf i_at.toInt.toNat).toInt = _; rfl
      refine lv_aload_n hx hb dX8_oneOf_41 rfl (lv_at hl 3 rfl) ?_
      refine lv_iload_n hx hb dX8_oneOf_42 rfl (lv_at hl 0 rfl) ?_
      refine va_cald hx hb hK hP 2 1 rfl rfl (by unfold vp_in; decide) dX8_oneOf_43 ?_
      refine lv_topi (fun x16 ex16 => ?_)
      have ex16 : 112 = x16 := (ex16.trans bg_0).symm
      subst ex16
      refine lv_icmp_ne (tgt := 49) hx hb dX8_oneOf_44 (by decide) (fun c17 => ?_) (fun c17 => ?_)
      · have c17 : x15.toInt ≠ 112 := vy_ne c17
        refine lv_iinc (v := 1) (lv' := [(3, .int 1), (2, .int (-1)), (0, .ref h0), (1, .ref r_begins)]) hx hb dX8_oneOf_49 hl (k := 0) rfl (by decide) (by decide) rfl (fun ls hl => ?_)
        refine lv_goto (tgt := 4) hx hb dX8_oneOf_52 (by decide) ?_
        refine lv_iload_n hx hb dX8_oneOf_4 rfl (lv_at hl 0 rfl) ?_
        refine lv_aload_n hx hb dX8_oneOf_5 rfl (lv_at hl 3 rfl) ?_
        refine va_alen hx hb hK hP 2 1 rfl rfl (v := 7) rfl dX8_oneOf_6 ?_
        refine lv_icmp_ge (tgt := 55) hx hb dX8_oneOf_7 (by decide) (fun c0 => absurd c0 (by decide)) (fun _ => ?_)
        refine lv_aload_n hx hb dX8_oneOf_10 rfl (lv_at hl 2 rfl) ?_
        refine va_get (D := (dC, dI)) (ci := 6) (v := .int i_well) (C := RX8) (T := TX8) (N := 33) hx hb hts iX8 hown hK hP 0 rfl rfl 9 (by decide) (hts (.fieldLink RX8 79 "NeighboursMarkModel" "well" "Z") (vm_at 1 rfl)) (fun _ h9 => h9) rfl dX8_oneOf_11 ?_
        refine lv_if_eq (tgt := 55) hx hb dX8_oneOf_14 (by decide) (fun c18 => by exfalso; have h9 : i_well.toInt = 0 := vy_eq c18; omega) (fun c18 => ?_)
        have c18 : i_well.toInt ≠ 0 := vy_ne c18
        refine lv_iload_n hx hb dX8_oneOf_17 rfl (lv_at hl 1 rfl) ?_
        refine lv_if_ge (tgt := 55) hx hb dX8_oneOf_18 (by decide) (fun c0 => absurd c0 (by decide)) (fun _ => ?_)
        refine lv_aload_n hx hb dX8_oneOf_21 rfl (lv_at hl 2 rfl) ?_
        refine va_get (D := (dC, dI)) (ci := 6) (v := .int i_at) (C := RX8) (T := TX8) (N := 33) hx hb hts iX8 hown hK hP 0 rfl rfl 8 (by decide) (hts (.fieldLink RX8 82 "NeighboursMarkModel" "at" "I") (vm_at 2 rfl)) (fun _ h9 => h9) rfl dX8_oneOf_22 ?_
        refine lv_aload_n hx hb dX8_oneOf_25 rfl (lv_at hl 2 rfl) ?_
        refine va_get (D := (dC, dI)) (ci := 6) (v := .int i_taped) (C := RX8) (T := TX8) (N := 33) hx hb hts iX8 hown hK hP 0 rfl rfl 7 (by decide) (hts (.fieldLink RX8 75 "NeighboursMarkModel" "taped" "I") (vm_at 3 rfl)) (fun _ h9 => h9) rfl dX8_oneOf_26 ?_
        refine lv_icmp_ge (tgt := 49) hx hb dX8_oneOf_29 (by decide) (fun c19 => by exfalso; have h9 : i_at.toInt ≥ i_taped.toInt := vy_le c19; omega) (fun c19 => ?_)
        have c19 : i_at.toInt < i_taped.toInt := vy_nle c19
        refine lv_aload_n hx hb dX8_oneOf_32 rfl (lv_at hl 2 rfl) ?_
        refine va_get (D := (dC, dI)) (ci := 6) (v := .ref r_tape) (C := RX8) (T := TX8) (N := 33) hx hb hts iX8 hown hK hP 0 rfl rfl 6 (by decide) (hts (.fieldLink RX8 25 "NeighboursMarkModel" "tape" "[I") (vm_at 4 rfl)) (fun _ h9 => h9) rfl dX8_oneOf_33 ?_
        refine lv_aload_n hx hb dX8_oneOf_36 rfl (lv_at hl 2 rfl) ?_
        refine va_get (D := (dC, dI)) (ci := 6) (v := .int i_at) (C := RX8) (T := TX8) (N := 33) hx hb hts iX8 hown hK hP 0 rfl rfl 8 (by decide) (hts (.fieldLink RX8 82 "NeighboursMarkModel" "at" "I") (vm_at 2 rfl)) (fun _ h9 => h9) rfl dX8_oneOf_37 ?_
        refine va_iald hx hb hK hP 1 0 rfl rfl (vp_in_iff.mpr ⟨by omega, by omega⟩) dX8_oneOf_40 ?_
        refine lv_topi (fun x20 ex20 => ?_)
        have ex20 : x15 = x20 := (ex20.trans ex15.symm).symm
        subst ex20
        refine lv_aload_n hx hb dX8_oneOf_41 rfl (lv_at hl 3 rfl) ?_
        refine lv_iload_n hx hb dX8_oneOf_42 rfl (lv_at hl 0 rfl) ?_
        refine va_cald hx hb hK hP 2 1 rfl rfl (by unfold vp_in; decide) dX8_oneOf_43 ?_
        refine lv_topi (fun x21 ex21 => ?_)
        have ex21 : 104 = x21 := (ex21.trans bg_1).symm
        subst ex21
        refine lv_icmp_ne (tgt := 49) hx hb dX8_oneOf_44 (by decide) (fun c22 => ?_) (fun c22 => ?_)
        · have c22 : x15.toInt ≠ 104 := vy_ne c22
          refine lv_iinc (v := 2) (lv' := [(3, .int 2), (2, .int (-1)), (0, .ref h0), (1, .ref r_begins)]) hx hb dX8_oneOf_49 hl (k := 0) rfl (by decide) (by decide) rfl (fun ls hl => ?_)
          refine lv_goto (tgt := 4) hx hb dX8_oneOf_52 (by decide) ?_
          refine lv_iload_n hx hb dX8_oneOf_4 rfl (lv_at hl 0 rfl) ?_
          refine lv_aload_n hx hb dX8_oneOf_5 rfl (lv_at hl 3 rfl) ?_
          refine va_alen hx hb hK hP 2 1 rfl rfl (v := 7) rfl dX8_oneOf_6 ?_
          refine lv_icmp_ge (tgt := 55) hx hb dX8_oneOf_7 (by decide) (fun c0 => absurd c0 (by decide)) (fun _ => ?_)
          refine lv_aload_n hx hb dX8_oneOf_10 rfl (lv_at hl 2 rfl) ?_
          refine va_get (D := (dC, dI)) (ci := 6) (v := .int i_well) (C := RX8) (T := TX8) (N := 33) hx hb hts iX8 hown hK hP 0 rfl rfl 9 (by decide) (hts (.fieldLink RX8 79 "NeighboursMarkModel" "well" "Z") (vm_at 1 rfl)) (fun _ h9 => h9) rfl dX8_oneOf_11 ?_
          refine lv_if_eq (tgt := 55) hx hb dX8_oneOf_14 (by decide) (fun c23 => by exfalso; have h9 : i_well.toInt = 0 := vy_eq c23; omega) (fun c23 => ?_)
          have c23 : i_well.toInt ≠ 0 := vy_ne c23
          refine lv_iload_n hx hb dX8_oneOf_17 rfl (lv_at hl 1 rfl) ?_
          refine lv_if_ge (tgt := 55) hx hb dX8_oneOf_18 (by decide) (fun c0 => absurd c0 (by decide)) (fun _ => ?_)
          refine lv_aload_n hx hb dX8_oneOf_21 rfl (lv_at hl 2 rfl) ?_
          refine va_get (D := (dC, dI)) (ci := 6) (v := .int i_at) (C := RX8) (T := TX8) (N := 33) hx hb hts iX8 hown hK hP 0 rfl rfl 8 (by decide) (hts (.fieldLink RX8 82 "NeighboursMarkModel" "at" "I") (vm_at 2 rfl)) (fun _ h9 => h9) rfl dX8_oneOf_22 ?_
          refine lv_aload_n hx hb dX8_oneOf_25 rfl (lv_at hl 2 rfl) ?_
          refine va_get (D := (dC, dI)) (ci := 6) (v := .int i_taped) (C := RX8) (T := TX8) (N := 33) hx hb hts iX8 hown hK hP 0 rfl rfl 7 (by decide) (hts (.fieldLink RX8 75 "NeighboursMarkModel" "taped" "I") (vm_at 3 rfl)) (fun _ h9 => h9) rfl dX8_oneOf_26 ?_
          refine lv_icmp_ge (tgt := 49) hx hb dX8_oneOf_29 (by decide) (fun c24 => by exfalso; have h9 : i_at.toInt ≥ i_taped.toInt := vy_le c24; omega) (fun c24 => ?_)
          have c24 : i_at.toInt < i_taped.toInt := vy_nle c24
          refine lv_aload_n hx hb dX8_oneOf_32 rfl (lv_at hl 2 rfl) ?_
          refine va_get (D := (dC, dI)) (ci := 6) (v := .ref r_tape) (C := RX8) (T := TX8) (N := 33) hx hb hts iX8 hown hK hP 0 rfl rfl 6 (by decide) (hts (.fieldLink RX8 25 "NeighboursMarkModel" "tape" "[I") (vm_at 4 rfl)) (fun _ h9 => h9) rfl dX8_oneOf_33 ?_
          refine lv_aload_n hx hb dX8_oneOf_36 rfl (lv_at hl 2 rfl) ?_
          refine va_get (D := (dC, dI)) (ci := 6) (v := .int i_at) (C := RX8) (T := TX8) (N := 33) hx hb hts iX8 hown hK hP 0 rfl rfl 8 (by decide) (hts (.fieldLink RX8 82 "NeighboursMarkModel" "at" "I") (vm_at 2 rfl)) (fun _ h9 => h9) rfl dX8_oneOf_37 ?_
          refine va_iald hx hb hK hP 1 0 rfl rfl (vp_in_iff.mpr ⟨by omega, by omega⟩) dX8_oneOf_40 ?_
          refine lv_topi (fun x25 ex25 => ?_)
          have ex25 : x15 = x25 := (ex25.trans ex15.symm).symm
          subst ex25
          refine lv_aload_n hx hb dX8_oneOf_41 rfl (lv_at hl 3 rfl) ?_
          refine lv_iload_n hx hb dX8_oneOf_42 rfl (lv_at hl 0 rfl) ?_
          refine va_cald hx hb hK hP 2 1 rfl rfl (by unfold vp_in; decide) dX8_oneOf_43 ?_
          refine lv_topi (fun x26 ex26 => ?_)
          have ex26 : 108 = x26 := (ex26.trans bg_2).symm
          subst ex26
          refine lv_icmp_ne (tgt := 49) hx hb dX8_oneOf_44 (by decide) (fun c27 => ?_) (fun c27 => ?_)
          · have c27 : x15.toInt ≠ 108 := vy_ne c27
            refine lv_iinc (v := 3) (lv' := [(3, .int 3), (2, .int (-1)), (0, .ref h0), (1, .ref r_begins)]) hx hb dX8_oneOf_49 hl (k := 0) rfl (by decide) (by decide) rfl (fun ls hl => ?_)
            refine lv_goto (tgt := 4) hx hb dX8_oneOf_52 (by decide) ?_
            refine lv_iload_n hx hb dX8_oneOf_4 rfl (lv_at hl 0 rfl) ?_
            refine lv_aload_n hx hb dX8_oneOf_5 rfl (lv_at hl 3 rfl) ?_
            refine va_alen hx hb hK hP 2 1 rfl rfl (v := 7) rfl dX8_oneOf_6 ?_
            refine lv_icmp_ge (tgt := 55) hx hb dX8_oneOf_7 (by decide) (fun c0 => absurd c0 (by decide)) (fun _ => ?_)
            refine lv_aload_n hx hb dX8_oneOf_10 rfl (lv_at hl 2 rfl) ?_
            refine va_get (D := (dC, dI)) (ci := 6) (v := .int i_well) (C := RX8) (T := TX8) (N := 33) hx hb hts iX8 hown hK hP 0 rfl rfl 9 (by decide) (hts (.fieldLink RX8 79 "NeighboursMarkModel" "well" "Z") (vm_at 1 rfl)) (fun _ h9 => h9) rfl dX8_oneOf_11 ?_
            refine lv_if_eq (tgt := 55) hx hb dX8_oneOf_14 (by decide) (fun c28 => by exfalso; have h9 : i_well.toInt = 0 := vy_eq c28; omega) (fun c28 => ?_)
            have c28 : i_well.toInt ≠ 0 := vy_ne c28
            refine lv_iload_n hx hb dX8_oneOf_17 rfl (lv_at hl 1 rfl) ?_
            refine lv_if_ge (tgt := 55) hx hb dX8_oneOf_18 (by decide) (fun c0 => absurd c0 (by decide)) (fun _ => ?_)
            refine lv_aload_n hx hb dX8_oneOf_21 rfl (lv_at hl 2 rfl) ?_
            refine va_get (D := (dC, dI)) (ci := 6) (v := .int i_at) (C := RX8) (T := TX8) (N := 33) hx hb hts iX8 hown hK hP 0 rfl rfl 8 (by decide) (hts (.fieldLink RX8 82 "NeighboursMarkModel" "at" "I") (vm_at 2 rfl)) (fun _ h9 => h9) rfl dX8_oneOf_22 ?_
            refine lv_aload_n hx hb dX8_oneOf_25 rfl (lv_at hl 2 rfl) ?_
            refine va_get (D := (dC, dI)) (ci := 6) (v := .int i_taped) (C := RX8) (T := TX8) (N := 33) hx hb hts iX8 hown hK hP 0 rfl rfl 7 (by decide) (hts (.fieldLink RX8 75 "NeighboursMarkModel" "taped" "I") (vm_at 3 rfl)) (fun _ h9 => h9) rfl dX8_oneOf_26 ?_
            refine lv_icmp_ge (tgt := 49) hx hb dX8_oneOf_29 (by decide) (fun c29 => by exfalso; have h9 : i_at.toInt ≥ i_taped.toInt := vy_le c29; omega) (fun c29 => ?_)
            have c29 : i_at.toInt < i_taped.toInt := vy_nle c29
            refine lv_aload_n hx hb dX8_oneOf_32 rfl (lv_at hl 2 rfl) ?_
            refine va_get (D := (dC, dI)) (ci := 6) (v := .ref r_tape) (C := RX8) (T := TX8) (N := 33) hx hb hts iX8 hown hK hP 0 rfl rfl 6 (by decide) (hts (.fieldLink RX8 25 "NeighboursMarkModel" "tape" "[I") (vm_at 4 rfl)) (fun _ h9 => h9) rfl dX8_oneOf_33 ?_
            refine lv_aload_n hx hb dX8_oneOf_36 rfl (lv_at hl 2 rfl) ?_
            refine va_get (D := (dC, dI)) (ci := 6) (v := .int i_at) (C := RX8) (T := TX8) (N := 33) hx hb hts iX8 hown hK hP 0 rfl rfl 8 (by decide) (hts (.fieldLink RX8 82 "NeighboursMarkModel" "at" "I") (vm_at 2 rfl)) (fun _ h9 => h9) rfl dX8_oneOf_37 ?_
            refine va_iald hx hb hK hP 1 0 rfl rfl (vp_in_iff.mpr ⟨by omega, by omega⟩) dX8_oneOf_40 ?_
            refine lv_topi (fun x30 ex30 => ?_)
            have ex30 : x15 = x30 := (ex30.trans ex15.symm).symm
            subst ex30
            refine lv_aload_n hx hb dX8_oneOf_41 rfl (lv_at hl 3 rfl) ?_
            refine lv_iload_n hx hb dX8_oneOf_42 rfl (lv_at hl 0 rfl) ?_
            refine va_cald hx hb hK hP 2 1 rfl rfl (by unfold vp_in; decide) dX8_oneOf_43 ?_
            refine lv_topi (fun x31 ex31 => ?_)
            have ex31 : 114 = x31 := (ex31.trans bg_3).symm
            subst ex31
            refine lv_icmp_ne (tgt := 49) hx hb dX8_oneOf_44 (by decide) (fun c32 => ?_) (fun c32 => ?_)
            · have c32 : x15.toInt ≠ 114 := vy_ne c32
              refine lv_iinc (v := 4) (lv' := [(3, .int 4), (2, .int (-1)), (0, .ref h0), (1, .ref r_begins)]) hx hb dX8_oneOf_49 hl (k := 0) rfl (by decide) (by decide) rfl (fun ls hl => ?_)
              refine lv_goto (tgt := 4) hx hb dX8_oneOf_52 (by decide) ?_
              refine lv_iload_n hx hb dX8_oneOf_4 rfl (lv_at hl 0 rfl) ?_
              refine lv_aload_n hx hb dX8_oneOf_5 rfl (lv_at hl 3 rfl) ?_
              refine va_alen hx hb hK hP 2 1 rfl rfl (v := 7) rfl dX8_oneOf_6 ?_
              refine lv_icmp_ge (tgt := 55) hx hb dX8_oneOf_7 (by decide) (fun c0 => absurd c0 (by decide)) (fun _ => ?_)
              refine lv_aload_n hx hb dX8_oneOf_10 rfl (lv_at hl 2 rfl) ?_
              refine va_get (D := (dC, dI)) (ci := 6) (v := .int i_well) (C := RX8) (T := TX8) (N := 33) hx hb hts iX8 hown hK hP 0 rfl rfl 9 (by decide) (hts (.fieldLink RX8 79 "NeighboursMarkModel" "well" "Z") (vm_at 1 rfl)) (fun _ h9 => h9) rfl dX8_oneOf_11 ?_
              refine lv_if_eq (tgt := 55) hx hb dX8_oneOf_14 (by decide) (fun c33 => by exfalso; have h9 : i_well.toInt = 0 := vy_eq c33; omega) (fun c33 => ?_)
              have c33 : i_well.toInt ≠ 0 := vy_ne c33
              refine lv_iload_n hx hb dX8_oneOf_17 rfl (lv_at hl 1 rfl) ?_
              refine lv_if_ge (tgt := 55) hx hb dX8_oneOf_18 (by decide) (fun c0 => absurd c0 (by decide)) (fun _ => ?_)
              refine lv_aload_n hx hb dX8_oneOf_21 rfl (lv_at hl 2 rfl) ?_
              refine va_get (D := (dC, dI)) (ci := 6) (v := .int i_at) (C := RX8) (T := TX8) (N := 33) hx hb hts iX8 hown hK hP 0 rfl rfl 8 (by decide) (hts (.fieldLink RX8 82 "NeighboursMarkModel" "at" "I") (vm_at 2 rfl)) (fun _ h9 => h9) rfl dX8_oneOf_22 ?_
              refine lv_aload_n hx hb dX8_oneOf_25 rfl (lv_at hl 2 rfl) ?_
              refine va_get (D := (dC, dI)) (ci := 6) (v := .int i_taped) (C := RX8) (T := TX8) (N := 33) hx hb hts iX8 hown hK hP 0 rfl rfl 7 (by decide) (hts (.fieldLink RX8 75 "NeighboursMarkModel" "taped" "I") (vm_at 3 rfl)) (fun _ h9 => h9) rfl dX8_oneOf_26 ?_
              refine lv_icmp_ge (tgt := 49) hx hb dX8_oneOf_29 (by decide) (fun c34 => by exfalso; have h9 : i_at.toInt ≥ i_taped.toInt := vy_le c34; omega) (fun c34 => ?_)
              have c34 : i_at.toInt < i_taped.toInt := vy_nle c34
              refine lv_aload_n hx hb dX8_oneOf_32 rfl (lv_at hl 2 rfl) ?_
              refine va_get (D := (dC, dI)) (ci := 6) (v := .ref r_tape) (C := RX8) (T := TX8) (N := 33) hx hb hts iX8 hown hK hP 0 rfl rfl 6 (by decide) (hts (.fieldLink RX8 25 "NeighboursMarkModel" "tape" "[I") (vm_at 4 rfl)) (fun _ h9 => h9) rfl dX8_oneOf_33 ?_
              refine lv_aload_n hx hb dX8_oneOf_36 rfl (lv_at hl 2 rfl) ?_
              refine va_get (D := (dC, dI)) (ci := 6) (v := .int i_at) (C := RX8) (T := TX8) (N := 33) hx hb hts iX8 hown hK hP 0 rfl rfl 8 (by decide) (hts (.fieldLink RX8 82 "NeighboursMarkModel" "at" "I") (vm_at 2 rfl)) (fun _ h9 => h9) rfl dX8_oneOf_37 ?_
              refine va_iald hx hb hK hP 1 0 rfl rfl (vp_in_iff.mpr ⟨by omega, by omega⟩) dX8_oneOf_40 ?_
              refine lv_topi (fun x35 ex35 => ?_)
              have ex35 : x15 = x35 := (ex35.trans ex15.symm).symm
              subst ex35
              refine lv_aload_n hx hb dX8_oneOf_41 rfl (lv_at hl 3 rfl) ?_
              refine lv_iload_n hx hb dX8_oneOf_42 rfl (lv_at hl 0 rfl) ?_
              refine va_cald hx hb hK hP 2 1 rfl rfl (by unfold vp_in; decide) dX8_oneOf_43 ?_
              refine lv_topi (fun x36 ex36 => ?_)
              have ex36 : 119 = x36 := (ex36.trans bg_4).symm
              subst ex36
              refine lv_icmp_ne (tgt := 49) hx hb dX8_oneOf_44 (by decide) (fun c37 => ?_) (fun c37 => ?_)
              · have c37 : x15.toInt ≠ 119 := vy_ne c37
                refine lv_iinc (v := 5) (lv' := [(3, .int 5), (2, .int (-1)), (0, .ref h0), (1, .ref r_begins)]) hx hb dX8_oneOf_49 hl (k := 0) rfl (by decide) (by decide) rfl (fun ls hl => ?_)
                refine lv_goto (tgt := 4) hx hb dX8_oneOf_52 (by decide) ?_
                refine lv_iload_n hx hb dX8_oneOf_4 rfl (lv_at hl 0 rfl) ?_
                refine lv_aload_n hx hb dX8_oneOf_5 rfl (lv_at hl 3 rfl) ?_
                refine va_alen hx hb hK hP 2 1 rfl rfl (v := 7) rfl dX8_oneOf_6 ?_
                refine lv_icmp_ge (tgt := 55) hx hb dX8_oneOf_7 (by decide) (fun c0 => absurd c0 (by decide)) (fun _ => ?_)
                refine lv_aload_n hx hb dX8_oneOf_10 rfl (lv_at hl 2 rfl) ?_
                refine va_get (D := (dC, dI)) (ci := 6) (v := .int i_well) (C := RX8) (T := TX8) (N := 33) hx hb hts iX8 hown hK hP 0 rfl rfl 9 (by decide) (hts (.fieldLink RX8 79 "NeighboursMarkModel" "well" "Z") (vm_at 1 rfl)) (fun _ h9 => h9) rfl dX8_oneOf_11 ?_
                refine lv_if_eq (tgt := 55) hx hb dX8_oneOf_14 (by decide) (fun c38 => by exfalso; have h9 : i_well.toInt = 0 := vy_eq c38; omega) (fun c38 => ?_)
                have c38 : i_well.toInt ≠ 0 := vy_ne c38
                refine lv_iload_n hx hb dX8_oneOf_17 rfl (lv_at hl 1 rfl) ?_
                refine lv_if_ge (tgt := 55) hx hb dX8_oneOf_18 (by decide) (fun c0 => absurd c0 (by decide)) (fun _ => ?_)
                refine lv_aload_n hx hb dX8_oneOf_21 rfl (lv_at hl 2 rfl) ?_
                refine va_get (D := (dC, dI)) (ci := 6) (v := .int i_at) (C := RX8) (T := TX8) (N := 33) hx hb hts iX8 hown hK hP 0 rfl rfl 8 (by decide) (hts (.fieldLink RX8 82 "NeighboursMarkModel" "at" "I") (vm_at 2 rfl)) (fun _ h9 => h9) rfl dX8_oneOf_22 ?_
                refine lv_aload_n hx hb dX8_oneOf_25 rfl (lv_at hl 2 rfl) ?_
                refine va_get (D := (dC, dI)) (ci := 6) (v := .int i_taped) (C := RX8) (T := TX8) (N := 33) hx hb hts iX8 hown hK hP 0 rfl rfl 7 (by decide) (hts (.fieldLink RX8 75 "NeighboursMarkModel" "taped" "I") (vm_at 3 rfl)) (fun _ h9 => h9) rfl dX8_oneOf_26 ?_
                refine lv_icmp_ge (tgt := 49) hx hb dX8_oneOf_29 (by decide) (fun c39 => by exfalso; have h9 : i_at.toInt ≥ i_taped.toInt := vy_le c39; omega) (fun c39 => ?_)
                have c39 : i_at.toInt < i_taped.toInt := vy_nle c39
                refine lv_aload_n hx hb dX8_oneOf_32 rfl (lv_at hl 2 rfl) ?_
                refine va_get (D := (dC, dI)) (ci := 6) (v := .ref r_tape) (C := RX8) (T := TX8) (N := 33) hx hb hts iX8 hown hK hP 0 rfl rfl 6 (by decide) (hts (.fieldLink RX8 25 "NeighboursMarkModel" "tape" "[I") (vm_at 4 rfl)) (fun _ h9 => h9) rfl dX8_oneOf_33 ?_
                refine lv_aload_n hx hb dX8_oneOf_36 rfl (lv_at hl 2 rfl) ?_
                refine va_get (D := (dC, dI)) (ci := 6) (v := .int i_at) (C := RX8) (T := TX8) (N := 33) hx hb hts iX8 hown hK hP 0 rfl rfl 8 (by decide) (hts (.fieldLink RX8 82 "NeighboursMarkModel" "at" "I") (vm_at 2 rfl)) (fun _ h9 => h9) rfl dX8_oneOf_37 ?_
                refine va_iald hx hb hK hP 1 0 rfl rfl (vp_in_iff.mpr ⟨by omega, by omega⟩) dX8_oneOf_40 ?_
                refine lv_topi (fun x40 ex40 => ?_)
                have ex40 : x15 = x40 := (ex40.trans ex15.symm).symm
                subst ex40
                refine lv_aload_n hx hb dX8_oneOf_41 rfl (lv_at hl 3 rfl) ?_
                refine lv_iload_n hx hb dX8_oneOf_42 rfl (lv_at hl 0 rfl) ?_
                refine va_cald hx hb hK hP 2 1 rfl rfl (by unfold vp_in; decide) dX8_oneOf_43 ?_
                refine lv_topi (fun x41 ex41 => ?_)
                have ex41 : 120 = x41 := (ex41.trans bg_5).symm
                subst ex41
                refine lv_icmp_ne (tgt := 49) hx hb dX8_oneOf_44 (by decide) (fun c42 => ?_) (fun c42 => ?_)
                · have c42 : x15.toInt ≠ 120 := vy_ne c42
                  refine lv_iinc (v := 6) (lv' := [(3, .int 6), (2, .int (-1)), (0, .ref h0), (1, .ref r_begins)]) hx hb dX8_oneOf_49 hl (k := 0) rfl (by decide) (by decide) rfl (fun ls hl => ?_)
                  refine lv_goto (tgt := 4) hx hb dX8_oneOf_52 (by decide) ?_
                  refine lv_iload_n hx hb dX8_oneOf_4 rfl (lv_at hl 0 rfl) ?_
                  refine lv_aload_n hx hb dX8_oneOf_5 rfl (lv_at hl 3 rfl) ?_
                  refine va_alen hx hb hK hP 2 1 rfl rfl (v := 7) rfl dX8_oneOf_6 ?_
                  refine lv_icmp_ge (tgt := 55) hx hb dX8_oneOf_7 (by decide) (fun c0 => absurd c0 (by decide)) (fun _ => ?_)
                  refine lv_aload_n hx hb dX8_oneOf_10 rfl (lv_at hl 2 rfl) ?_
                  refine va_get (D := (dC, dI)) (ci := 6) (v := .int i_well) (C := RX8) (T := TX8) (N := 33) hx hb hts iX8 hown hK hP 0 rfl rfl 9 (by decide) (hts (.fieldLink RX8 79 "NeighboursMarkModel" "well" "Z") (vm_at 1 rfl)) (fun _ h9 => h9) rfl dX8_oneOf_11 ?_
                  refine lv_if_eq (tgt := 55) hx hb dX8_oneOf_14 (by decide) (fun c43 => by exfalso; have h9 : i_well.toInt = 0 := vy_eq c43; omega) (fun c43 => ?_)
                  have c43 : i_well.toInt ≠ 0 := vy_ne c43
                  refine lv_iload_n hx hb dX8_oneOf_17 rfl (lv_at hl 1 rfl) ?_
                  refine lv_if_ge (tgt := 55) hx hb dX8_oneOf_18 (by decide) (fun c0 => absurd c0 (by decide)) (fun _ => ?_)
                  refine lv_aload_n hx hb dX8_oneOf_21 rfl (lv_at hl 2 rfl) ?_
                  refine va_get (D := (dC, dI)) (ci := 6) (v := .int i_at) (C := RX8) (T := TX8) (N := 33) hx hb hts iX8 hown hK hP 0 rfl rfl 8 (by decide) (hts (.fieldLink RX8 82 "NeighboursMarkModel" "at" "I") (vm_at 2 rfl)) (fun _ h9 => h9) rfl dX8_oneOf_22 ?_
                  refine lv_aload_n hx hb dX8_oneOf_25 rfl (lv_at hl 2 rfl) ?_
                  refine va_get (D := (dC, dI)) (ci := 6) (v := .int i_taped) (C := RX8) (T := TX8) (N := 33) hx hb hts iX8 hown hK hP 0 rfl rfl 7 (by decide) (hts (.fieldLink RX8 75 "NeighboursMarkModel" "taped" "I") (vm_at 3 rfl)) (fun _ h9 => h9) rfl dX8_oneOf_26 ?_
                  refine lv_icmp_ge (tgt := 49) hx hb dX8_oneOf_29 (by decide) (fun c44 => by exfalso; have h9 : i_at.toInt ≥ i_taped.toInt := vy_le c44; omega) (fun c44 => ?_)
                  have c44 : i_at.toInt < i_taped.toInt := vy_nle c44
                  refine lv_aload_n hx hb dX8_oneOf_32 rfl (lv_at hl 2 rfl) ?_
                  refine va_get (D := (dC, dI)) (ci := 6) (v := .ref r_tape) (C := RX8) (T := TX8) (N := 33) hx hb hts iX8 hown hK hP 0 rfl rfl 6 (by decide) (hts (.fieldLink RX8 25 "NeighboursMarkModel" "tape" "[I") (vm_at 4 rfl)) (fun _ h9 => h9) rfl dX8_oneOf_33 ?_
                  refine lv_aload_n hx hb dX8_oneOf_36 rfl (lv_at hl 2 rfl) ?_
                  refine va_get (D := (dC, dI)) (ci := 6) (v := .int i_at) (C := RX8) (T := TX8) (N := 33) hx hb hts iX8 hown hK hP 0 rfl rfl 8 (by decide) (hts (.fieldLink RX8 82 "NeighboursMarkModel" "at" "I") (vm_at 2 rfl)) (fun _ h9 => h9) rfl dX8_oneOf_37 ?_
                  refine va_iald hx hb hK hP 1 0 rfl rfl (vp_in_iff.mpr ⟨by omega, by omega⟩) dX8_oneOf_40 ?_
                  refine lv_topi (fun x45 ex45 => ?_)
                  have ex45 : x15 = x45 := (ex45.trans ex15.symm).symm
                  subst ex45
                  refine lv_aload_n hx hb dX8_oneOf_41 rfl (lv_at hl 3 rfl) ?_
                  refine lv_iload_n hx hb dX8_oneOf_42 rfl (lv_at hl 0 rfl) ?_
                  refine va_cald hx hb hK hP 2 1 rfl rfl (by unfold vp_in; decide) dX8_oneOf_43 ?_
                  refine lv_topi (fun x46 ex46 => ?_)
                  have ex46 : 109 = x46 := (ex46.trans bg_6).symm
                  subst ex46
                  refine lv_icmp_ne (tgt := 49) hx hb dX8_oneOf_44 (by decide) (fun c47 => ?_) (fun c47 => ?_)
                  · have c47 : x15.toInt ≠ 109 := vy_ne c47
                    refine lv_iinc (v := 7) (lv' := [(3, .int 7), (2, .int (-1)), (0, .ref h0), (1, .ref r_begins)]) hx hb dX8_oneOf_49 hl (k := 0) rfl (by decide) (by decide) rfl (fun ls hl => ?_)
                    refine lv_goto (tgt := 4) hx hb dX8_oneOf_52 (by decide) ?_
                    refine lv_iload_n hx hb dX8_oneOf_4 rfl (lv_at hl 0 rfl) ?_
                    refine lv_aload_n hx hb dX8_oneOf_5 rfl (lv_at hl 3 rfl) ?_
                    refine va_alen hx hb hK hP 2 1 rfl rfl (v := 7) rfl dX8_oneOf_6 ?_
                    refine lv_icmp_ge (tgt := 55) hx hb dX8_oneOf_7 (by decide) (fun _ => ?_) (fun c0 => absurd (by decide) c0)
                    refine lv_iload_n hx hb dX8_oneOf_55 rfl (lv_at hl 1 rfl) ?_
                    refine lv_if_ge (tgt := 66) hx hb dX8_oneOf_56 (by decide) (fun c0 => absurd c0 (by decide)) (fun _ => ?_)
                    refine lv_aload_n hx hb dX8_oneOf_59 rfl (lv_at hl 2 rfl) ?_
                    refine lv_iconst (v := 0) hx hb dX8_oneOf_60 (by decide) ?_
                    refine va_put (D := (dC, dI)) (ci := 6) (v := .int 0) (ty := .boolean) (C := RX8) (T := TX8) (N := 33) hx hb hts iX8 tyX8 tyX8_ok nmX8 hown hK hP hD hS 0 rfl rfl 9 (by decide) (hts (.fieldLink RX8 79 "NeighboursMarkModel" "well" "Z") (vm_at 1 rfl)) (fun _ h9 => h9) rfl (tyX8_ok 9 (by decide)) rfl rfl (Nat.le_of_ble_eq_true rfl) dX8_oneOf_61 (fun H locs hP hD hS => ?_)
                    have hP : va_P (dC, dI) vwCl [(h0, .inr (6, [.ref r_refused, .ref r_now, .ref r_then, .ref r_before, .ref r_asIs, .int i_kept, .ref r_tape, .int i_taped, .int i_at, .int 0, .ref r_begins, .ref r_kinds, .int i_sort, .ref r_field, .ref r_willTeach, .ref r_isBack, .ref r_told, .ref r_bestSeats, .ref r_firstSeats, .int i_bestPass, .int i_bestAll, .int i_leastAll, .int i_fits, .int i_mayBeForged, .int i_restMany, .int i_restAll, .int i_restMost, .int i_mostAll, .ref r_restLearn, .ref r_marksNow, .ref r_row, .int i_rows, .int i_seed])), (r_tape, .inl (cI, 64, .inl tf)), (r_begins, .inl (cC, 7, .inl bg))] H := hP
                    have hD : va_D A [(h0, .inr (6, [.ref r_refused, .ref r_now, .ref r_then, .ref r_before, .ref r_asIs, .int i_kept, .ref r_tape, .int i_taped, .int i_at, .int 0, .ref r_begins, .ref r_kinds, .int i_sort, .ref r_field, .ref r_willTeach, .ref r_isBack, .ref r_told, .ref r_bestSeats, .ref r_firstSeats, .int i_bestPass, .int i_bestAll, .int i_leastAll, .int i_fits, .int i_mayBeForged, .int i_restMany, .int i_restAll, .int i_restMost, .int i_mostAll, .ref r_restLearn, .ref r_marksNow, .ref r_row, .int i_rows, .int i_seed])), (r_tape, .inl (cI, 64, .inl tf)), (r_begins, .inl (cC, 7, .inl bg))] := hD
                    refine lv_iconst (v := 0) hx hb dX8_oneOf_64 (by decide) ?_
                    exact vx_iret (u := ((fun k => ([i_at, 0] : List Int32).getD k 0), (fun k => ([] : List (Nat → Int32)).getD k (fun _ => 0)))) hx hb hr hlocks hK hP hD hS [0, 1, 2] rfl (by decide) ⟨(by decide), (show 0 ≤ i_at.toInt ∧ i_at.toInt ≤ 64 from ⟨by omega, by omega⟩), (show 0 ≤ (0 : Int32).toInt ∧ (0 : Int32).toInt ≤ 1 by decide), (show OneB tf i_taped.toInt i_well.toInt i_at.toInt 0 i_at.toInt 0 from (by unfold OneB; omega)), trivial⟩ dX8_oneOf_65
                  · have c47 : x15.toInt = 109 := vy_eq c47
                    refine lv_iload_n hx hb dX8_oneOf_47 rfl (lv_at hl 0 rfl) ?_
                    refine lv_istore_n (lv' := [(2, .int 6), (3, .int 6), (0, .ref h0), (1, .ref r_begins)]) hx hb dX8_oneOf_48 rfl hl (by decide) rfl (fun ls hl => ?_)
                    refine lv_iinc (v := 7) (lv' := [(3, .int 7), (2, .int 6), (0, .ref h0), (1, .ref r_begins)]) hx hb dX8_oneOf_49 hl (k := 1) rfl (by decide) (by decide) rfl (fun ls hl => ?_)
                    refine lv_goto (tgt := 4) hx hb dX8_oneOf_52 (by decide) ?_
                    refine lv_iload_n hx hb dX8_oneOf_4 rfl (lv_at hl 0 rfl) ?_
                    refine lv_aload_n hx hb dX8_oneOf_5 rfl (lv_at hl 3 rfl) ?_
                    refine va_alen hx hb hK hP 2 1 rfl rfl (v := 7) rfl dX8_oneOf_6 ?_
                    refine lv_icmp_ge (tgt := 55) hx hb dX8_oneOf_7 (by decide) (fun _ => ?_) (fun c0 => absurd (by decide) c0)
                    refine lv_iload_n hx hb dX8_oneOf_55 rfl (lv_at hl 1 rfl) ?_
                    refine lv_if_ge (tgt := 66) hx hb dX8_oneOf_56 (by decide) (fun _ => ?_) (fun c0 => absurd (by decide) c0)
                    refine lv_aload_n hx hb dX8_oneOf_66 rfl (lv_at hl 2 rfl) ?_
                    refine lv_dup hx hb dX8_oneOf_67 rfl ?_
                    refine va_get (D := (dC, dI)) (ci := 6) (v := .int i_at) (C := RX8) (T := TX8) (N := 33) hx hb hts iX8 hown hK hP 0 rfl rfl 8 (by decide) (hts (.fieldLink RX8 82 "NeighboursMarkModel" "at" "I") (vm_at 2 rfl)) (fun _ h9 => h9) rfl dX8_oneOf_68 ?_
                    refine lv_iconst (v := 1) hx hb dX8_oneOf_71 (by decide) ?_
                    refine lv_iadd hx hb dX8_oneOf_72 ?_
                    have f48 := vy_add (x := i_at) (y := 1) rfl (show ((1 : Int32)).toInt = 1 by decide) (by omega) (by omega)
                    refine va_put (D := (dC, dI)) (ci := 6) (v := .int (i_at + 1)) (ty := .int) (C := RX8) (T := TX8) (N := 33) hx hb hts iX8 tyX8 tyX8_ok nmX8 hown hK hP hD hS 0 rfl rfl 8 (by decide) (hts (.fieldLink RX8 82 "NeighboursMarkModel" "at" "I") (vm_at 2 rfl)) (fun _ h9 => h9) rfl (tyX8_ok 8 (by decide)) rfl rfl (Nat.le_of_ble_eq_true rfl) dX8_oneOf_73 (fun H locs hP hD hS => ?_)
                    have hP : va_P (dC, dI) vwCl [(h0, .inr (6, [.ref r_refused, .ref r_now, .ref r_then, .ref r_before, .ref r_asIs, .int i_kept, .ref r_tape, .int i_taped, .int (i_at + 1), .int i_well, .ref r_begins, .ref r_kinds, .int i_sort, .ref r_field, .ref r_willTeach, .ref r_isBack, .ref r_told, .ref r_bestSeats, .ref r_firstSeats, .int i_bestPass, .int i_bestAll, .int i_leastAll, .int i_fits, .int i_mayBeForged, .int i_restMany, .int i_restAll, .int i_restMost, .int i_mostAll, .ref r_restLearn, .ref r_marksNow, .ref r_row, .int i_rows, .int i_seed])), (r_tape, .inl (cI, 64, .inl tf)), (r_begins, .inl (cC, 7, .inl bg))] H := hP
                    have hD : va_D A [(h0, .inr (6, [.ref r_refused, .ref r_now, .ref r_then, .ref r_before, .ref r_asIs, .int i_kept, .ref r_tape, .int i_taped, .int (i_at + 1), .int i_well, .ref r_begins, .ref r_kinds, .int i_sort, .ref r_field, .ref r_willTeach, .ref r_isBack, .ref r_told, .ref r_bestSeats, .ref r_firstSeats, .int i_bestPass, .int i_bestAll, .int i_leastAll, .int i_fits, .int i_mayBeForged, .int i_restMany, .int i_restAll, .int i_restMost, .int i_mostAll, .ref r_restLearn, .ref r_marksNow, .ref r_row, .int i_rows, .int i_seed])), (r_tape, .inl (cI, 64, .inl tf)), (r_begins, .inl (cC, 7, .inl bg))] := hD
                    refine lv_iload_n hx hb dX8_oneOf_76 rfl (lv_at hl 1 rfl) ?_
                    exact vx_iret (u := ((fun k => ([(i_at + 1), i_well] : List Int32).getD k 0), (fun k => ([] : List (Nat → Int32)).getD k (fun _ => 0)))) hx hb hr hlocks hK hP hD hS [0, 1, 2] rfl (by decide) ⟨(by decide), (show 0 ≤ (i_at + 1).toInt ∧ (i_at + 1).toInt ≤ 64 from ⟨by omega, by omega⟩), (show 0 ≤ i_well.toInt ∧ i_well.toInt ≤ 1 from ⟨by omega, by omega⟩), (show OneB tf i_taped.toInt i_well.toInt i_at.toInt 6 (i_at + 1).toInt i_well.toInt from (by unfold OneB; omega)), trivial⟩ dX8_oneOf_77
                · have c42 : x15.toInt = 120 := vy_eq c42
                  refine lv_iload_n hx hb dX8_oneOf_47 rfl (lv_at hl 0 rfl) ?_
                  refine lv_istore_n (lv' := [(2, .int 5), (3, .int 5), (0, .ref h0), (1, .ref r_begins)]) hx hb dX8_oneOf_48 rfl hl (by decide) rfl (fun ls hl => ?_)
                  refine lv_iinc (v := 6) (lv' := [(3, .int 6), (2, .int 5), (0, .ref h0), (1, .ref r_begins)]) hx hb dX8_oneOf_49 hl (k := 1) rfl (by decide) (by decide) rfl (fun ls hl => ?_)
                  refine lv_goto (tgt := 4) hx hb dX8_oneOf_52 (by decide) ?_
                  refine lv_iload_n hx hb dX8_oneOf_4 rfl (lv_at hl 0 rfl) ?_
                  refine lv_aload_n hx hb dX8_oneOf_5 rfl (lv_at hl 3 rfl) ?_
                  refine va_alen hx hb hK hP 2 1 rfl rfl (v := 7) rfl dX8_oneOf_6 ?_
                  refine lv_icmp_ge (tgt := 55) hx hb dX8_oneOf_7 (by decide) (fun c0 => absurd c0 (by decide)) (fun _ => ?_)
                  refine lv_aload_n hx hb dX8_oneOf_10 rfl (lv_at hl 2 rfl) ?_
                  refine va_get (D := (dC, dI)) (ci := 6) (v := .int i_well) (C := RX8) (T := TX8) (N := 33) hx hb hts iX8 hown hK hP 0 rfl rfl 9 (by decide) (hts (.fieldLink RX8 79 "NeighboursMarkModel" "well" "Z") (vm_at 1 rfl)) (fun _ h9 => h9) rfl dX8_oneOf_11 ?_
                  refine lv_if_eq (tgt := 55) hx hb dX8_oneOf_14 (by decide) (fun c49 => by exfalso; have h9 : i_well.toInt = 0 := vy_eq c49; omega) (fun c49 => ?_)
                  have c49 : i_well.toInt ≠ 0 := vy_ne c49
                  refine lv_iload_n hx hb dX8_oneOf_17 rfl (lv_at hl 1 rfl) ?_
                  refine lv_if_ge (tgt := 55) hx hb dX8_oneOf_18 (by decide) (fun _ => ?_) (fun c0 => absurd (by decide) c0)
                  refine lv_iload_n hx hb dX8_oneOf_55 rfl (lv_at hl 1 rfl) ?_
                  refine lv_if_ge (tgt := 66) hx hb dX8_oneOf_56 (by decide) (fun _ => ?_) (fun c0 => absurd (by decide) c0)
                  refine lv_aload_n hx hb dX8_oneOf_66 rfl (lv_at hl 2 rfl) ?_
                  refine lv_dup hx hb dX8_oneOf_67 rfl ?_
                  refine va_get (D := (dC, dI)) (ci := 6) (v := .int i_at) (C := RX8) (T := TX8) (N := 33) hx hb hts iX8 hown hK hP 0 rfl rfl 8 (by decide) (hts (.fieldLink RX8 82 "NeighboursMarkModel" "at" "I") (vm_at 2 rfl)) (fun _ h9 => h9) rfl dX8_oneOf_68 ?_
                  refine lv_iconst (v := 1) hx hb dX8_oneOf_71 (by decide) ?_
                  refine lv_iadd hx hb dX8_oneOf_72 ?_
                  have f50 := vy_add (x := i_at) (y := 1) rfl (show ((1 : Int32)).toInt = 1 by decide) (by omega) (by omega)
                  refine va_put (D := (dC, dI)) (ci := 6) (v := .int (i_at + 1)) (ty := .int) (C := RX8) (T := TX8) (N := 33) hx hb hts iX8 tyX8 tyX8_ok nmX8 hown hK hP hD hS 0 rfl rfl 8 (by decide) (hts (.fieldLink RX8 82 "NeighboursMarkModel" "at" "I") (vm_at 2 rfl)) (fun _ h9 => h9) rfl (tyX8_ok 8 (by decide)) rfl rfl (Nat.le_of_ble_eq_true rfl) dX8_oneOf_73 (fun H locs hP hD hS => ?_)
                  have hP : va_P (dC, dI) vwCl [(h0, .inr (6, [.ref r_refused, .ref r_now, .ref r_then, .ref r_before, .ref r_asIs, .int i_kept, .ref r_tape, .int i_taped, .int (i_at + 1), .int i_well, .ref r_begins, .ref r_kinds, .int i_sort, .ref r_field, .ref r_willTeach, .ref r_isBack, .ref r_told, .ref r_bestSeats, .ref r_firstSeats, .int i_bestPass, .int i_bestAll, .int i_leastAll, .int i_fits, .int i_mayBeForged, .int i_restMany, .int i_restAll, .int i_restMost, .int i_mostAll, .ref r_restLearn, .ref r_marksNow, .ref r_row, .int i_rows, .int i_seed])), (r_tape, .inl (cI, 64, .inl tf)), (r_begins, .inl (cC, 7, .inl bg))] H := hP
                  have hD : va_D A [(h0, .inr (6, [.ref r_refused, .ref r_now, .ref r_then, .ref r_before, .ref r_asIs, .int i_kept, .ref r_tape, .int i_taped, .int (i_at + 1), .int i_well, .ref r_begins, .ref r_kinds, .int i_sort, .ref r_field, .ref r_willTeach, .ref r_isBack, .ref r_told, .ref r_bestSeats, .ref r_firstSeats, .int i_bestPass, .int i_bestAll, .int i_leastAll, .int i_fits, .int i_mayBeForged, .int i_restMany, .int i_restAll, .int i_restMost, .int i_mostAll, .ref r_restLearn, .ref r_marksNow, .ref r_row, .int i_rows, .int i_seed])), (r_tape, .inl (cI, 64, .inl tf)), (r_begins, .inl (cC, 7, .inl bg))] := hD
                  refine lv_iload_n hx hb dX8_oneOf_76 rfl (lv_at hl 1 rfl) ?_
                  exact vx_iret (u := ((fun k => ([(i_at + 1), i_well] : List Int32).getD k 0), (fun k => ([] : List (Nat → Int32)).getD k (fun _ => 0)))) hx hb hr hlocks hK hP hD hS [0, 1, 2] rfl (by decide) ⟨(by decide), (show 0 ≤ (i_at + 1).toInt ∧ (i_at + 1).toInt ≤ 64 from ⟨by omega, by omega⟩), (show 0 ≤ i_well.toInt ∧ i_well.toInt ≤ 1 from ⟨by omega, by omega⟩), (show OneB tf i_taped.toInt i_well.toInt i_at.toInt 5 (i_at + 1).toInt i_well.toInt from (by unfold OneB; omega)), trivial⟩ dX8_oneOf_77
              · have c37 : x15.toInt = 119 := vy_eq c37
                refine lv_iload_n hx hb dX8_oneOf_47 rfl (lv_at hl 0 rfl) ?_
                refine lv_istore_n (lv' := [(2, .int 4), (3, .int 4), (0, .ref h0), (1, .ref r_begins)]) hx hb dX8_oneOf_48 rfl hl (by decide) rfl (fun ls hl => ?_)
                refine lv_iinc (v := 5) (lv' := [(3, .int 5), (2, .int 4), (0, .ref h0), (1, .ref r_begins)]) hx hb dX8_oneOf_49 hl (k := 1) rfl (by decide) (by decide) rfl (fun ls hl => ?_)
                refine lv_goto (tgt := 4) hx hb dX8_oneOf_52 (by decide) ?_
                refine lv_iload_n hx hb dX8_oneOf_4 rfl (lv_at hl 0 rfl) ?_
                refine lv_aload_n hx hb dX8_oneOf_5 rfl (lv_at hl 3 rfl) ?_
                refine va_alen hx hb hK hP 2 1 rfl rfl (v := 7) rfl dX8_oneOf_6 ?_
                refine lv_icmp_ge (tgt := 55) hx hb dX8_oneOf_7 (by decide) (fun c0 => absurd c0 (by decide)) (fun _ => ?_)
                refine lv_aload_n hx hb dX8_oneOf_10 rfl (lv_at hl 2 rfl) ?_
                refine va_get (D := (dC, dI)) (ci := 6) (v := .int i_well) (C := RX8) (T := TX8) (N := 33) hx hb hts iX8 hown hK hP 0 rfl rfl 9 (by decide) (hts (.fieldLink RX8 79 "NeighboursMarkModel" "well" "Z") (vm_at 1 rfl)) (fun _ h9 => h9) rfl dX8_oneOf_11 ?_
                refine lv_if_eq (tgt := 55) hx hb dX8_oneOf_14 (by decide) (fun c51 => by exfalso; have h9 : i_well.toInt = 0 := vy_eq c51; omega) (fun c51 => ?_)
                have c51 : i_well.toInt ≠ 0 := vy_ne c51
                refine lv_iload_n hx hb dX8_oneOf_17 rfl (lv_at hl 1 rfl) ?_
                refine lv_if_ge (tgt := 55) hx hb dX8_oneOf_18 (by decide) (fun _ => ?_) (fun c0 => absurd (by decide) c0)
                refine lv_iload_n hx hb dX8_oneOf_55 rfl (lv_at hl 1 rfl) ?_
                refine lv_if_ge (tgt := 66) hx hb dX8_oneOf_56 (by decide) (fun _ => ?_) (fun c0 => absurd (by decide) c0)
                refine lv_aload_n hx hb dX8_oneOf_66 rfl (lv_at hl 2 rfl) ?_
                refine lv_dup hx hb dX8_oneOf_67 rfl ?_
                refine va_get (D := (dC, dI)) (ci := 6) (v := .int i_at) (C := RX8) (T := TX8) (N := 33) hx hb hts iX8 hown hK hP 0 rfl rfl 8 (by decide) (hts (.fieldLink RX8 82 "NeighboursMarkModel" "at" "I") (vm_at 2 rfl)) (fun _ h9 => h9) rfl dX8_oneOf_68 ?_
                refine lv_iconst (v := 1) hx hb dX8_oneOf_71 (by decide) ?_
                refine lv_iadd hx hb dX8_oneOf_72 ?_
                have f52 := vy_add (x := i_at) (y := 1) rfl (show ((1 : Int32)).toInt = 1 by decide) (by omega) (by omega)
                refine va_put (D := (dC, dI)) (ci := 6) (v := .int (i_at + 1)) (ty := .int) (C := RX8) (T := TX8) (N := 33) hx hb hts iX8 tyX8 tyX8_ok nmX8 hown hK hP hD hS 0 rfl rfl 8 (by decide) (hts (.fieldLink RX8 82 "NeighboursMarkModel" "at" "I") (vm_at 2 rfl)) (fun _ h9 => h9) rfl (tyX8_ok 8 (by decide)) rfl rfl (Nat.le_of_ble_eq_true rfl) dX8_oneOf_73 (fun H locs hP hD hS => ?_)
                have hP : va_P (dC, dI) vwCl [(h0, .inr (6, [.ref r_refused, .ref r_now, .ref r_then, .ref r_before, .ref r_asIs, .int i_kept, .ref r_tape, .int i_taped, .int (i_at + 1), .int i_well, .ref r_begins, .ref r_kinds, .int i_sort, .ref r_field, .ref r_willTeach, .ref r_isBack, .ref r_told, .ref r_bestSeats, .ref r_firstSeats, .int i_bestPass, .int i_bestAll, .int i_leastAll, .int i_fits, .int i_mayBeForged, .int i_restMany, .int i_restAll, .int i_restMost, .int i_mostAll, .ref r_restLearn, .ref r_marksNow, .ref r_row, .int i_rows, .int i_seed])), (r_tape, .inl (cI, 64, .inl tf)), (r_begins, .inl (cC, 7, .inl bg))] H := hP
                have hD : va_D A [(h0, .inr (6, [.ref r_refused, .ref r_now, .ref r_then, .ref r_before, .ref r_asIs, .int i_kept, .ref r_tape, .int i_taped, .int (i_at + 1), .int i_well, .ref r_begins, .ref r_kinds, .int i_sort, .ref r_field, .ref r_willTeach, .ref r_isBack, .ref r_told, .ref r_bestSeats, .ref r_firstSeats, .int i_bestPass, .int i_bestAll, .int i_leastAll, .int i_fits, .int i_mayBeForged, .int i_restMany, .int i_restAll, .int i_restMost, .int i_mostAll, .ref r_restLearn, .ref r_marksNow, .ref r_row, .int i_rows, .int i_seed])), (r_tape, .inl (cI, 64, .inl tf)), (r_begins, .inl (cC, 7, .inl bg))] := hD
                refine lv_iload_n hx hb dX8_oneOf_76 rfl (lv_at hl 1 rfl) ?_
                exact vx_iret (u := ((fun k => ([(i_at + 1), i_well] : List Int32).getD k 0), (fun k => ([] : List (Nat → Int32)).getD k (fun _ => 0)))) hx hb hr hlocks hK hP hD hS [0, 1, 2] rfl (by decide) ⟨(by decide), (show 0 ≤ (i_at + 1).toInt ∧ (i_at + 1).toInt ≤ 64 from ⟨by omega, by omega⟩), (show 0 ≤ i_well.toInt ∧ i_well.toInt ≤ 1 from ⟨by omega, by omega⟩), (show OneB tf i_taped.toInt i_well.toInt i_at.toInt 4 (i_at + 1).toInt i_well.toInt from (by unfold OneB; omega)), trivial⟩ dX8_oneOf_77
            · have c32 : x15.toInt = 114 := vy_eq c32
              refine lv_iload_n hx hb dX8_oneOf_47 rfl (lv_at hl 0 rfl) ?_
              refine lv_istore_n (lv' := [(2, .int 3), (3, .int 3), (0, .ref h0), (1, .ref r_begins)]) hx hb dX8_oneOf_48 rfl hl (by decide) rfl (fun ls hl => ?_)
              refine lv_iinc (v := 4) (lv' := [(3, .int 4), (2, .int 3), (0, .ref h0), (1, .ref r_begins)]) hx hb dX8_oneOf_49 hl (k := 1) rfl (by decide) (by decide) rfl (fun ls hl => ?_)
              refine lv_goto (tgt := 4) hx hb dX8_oneOf_52 (by decide) ?_
              refine lv_iload_n hx hb dX8_oneOf_4 rfl (lv_at hl 0 rfl) ?_
              refine lv_aload_n hx hb dX8_oneOf_5 rfl (lv_at hl 3 rfl) ?_
              refine va_alen hx hb hK hP 2 1 rfl rfl (v := 7) rfl dX8_oneOf_6 ?_
              refine lv_icmp_ge (tgt := 55) hx hb dX8_oneOf_7 (by decide) (fun c0 => absurd c0 (by decide)) (fun _ => ?_)
              refine lv_aload_n hx hb dX8_oneOf_10 rfl (lv_at hl 2 rfl) ?_
              refine va_get (D := (dC, dI)) (ci := 6) (v := .int i_well) (C := RX8) (T := TX8) (N := 33) hx hb hts iX8 hown hK hP 0 rfl rfl 9 (by decide) (hts (.fieldLink RX8 79 "NeighboursMarkModel" "well" "Z") (vm_at 1 rfl)) (fun _ h9 => h9) rfl dX8_oneOf_11 ?_
              refine lv_if_eq (tgt := 55) hx hb dX8_oneOf_14 (by decide) (fun c53 => by exfalso; have h9 : i_well.toInt = 0 := vy_eq c53; omega) (fun c53 => ?_)
              have c53 : i_well.toInt ≠ 0 := vy_ne c53
              refine lv_iload_n hx hb dX8_oneOf_17 rfl (lv_at hl 1 rfl) ?_
              refine lv_if_ge (tgt := 55) hx hb dX8_oneOf_18 (by decide) (fun _ => ?_) (fun c0 => absurd (by decide) c0)
              refine lv_iload_n hx hb dX8_oneOf_55 rfl (lv_at hl 1 rfl) ?_
              refine lv_if_ge (tgt := 66) hx hb dX8_oneOf_56 (by decide) (fun _ => ?_) (fun c0 => absurd (by decide) c0)
              refine lv_aload_n hx hb dX8_oneOf_66 rfl (lv_at hl 2 rfl) ?_
              refine lv_dup hx hb dX8_oneOf_67 rfl ?_
              refine va_get (D := (dC, dI)) (ci := 6) (v := .int i_at) (C := RX8) (T := TX8) (N := 33) hx hb hts iX8 hown hK hP 0 rfl rfl 8 (by decide) (hts (.fieldLink RX8 82 "NeighboursMarkModel" "at" "I") (vm_at 2 rfl)) (fun _ h9 => h9) rfl dX8_oneOf_68 ?_
              refine lv_iconst (v := 1) hx hb dX8_oneOf_71 (by decide) ?_
              refine lv_iadd hx hb dX8_oneOf_72 ?_
              have f54 := vy_add (x := i_at) (y := 1) rfl (show ((1 : Int32)).toInt = 1 by decide) (by omega) (by omega)
              refine va_put (D := (dC, dI)) (ci := 6) (v := .int (i_at + 1)) (ty := .int) (C := RX8) (T := TX8) (N := 33) hx hb hts iX8 tyX8 tyX8_ok nmX8 hown hK hP hD hS 0 rfl rfl 8 (by decide) (hts (.fieldLink RX8 82 "NeighboursMarkModel" "at" "I") (vm_at 2 rfl)) (fun _ h9 => h9) rfl (tyX8_ok 8 (by decide)) rfl rfl (Nat.le_of_ble_eq_true rfl) dX8_oneOf_73 (fun H locs hP hD hS => ?_)
              have hP : va_P (dC, dI) vwCl [(h0, .inr (6, [.ref r_refused, .ref r_now, .ref r_then, .ref r_before, .ref r_asIs, .int i_kept, .ref r_tape, .int i_taped, .int (i_at + 1), .int i_well, .ref r_begins, .ref r_kinds, .int i_sort, .ref r_field, .ref r_willTeach, .ref r_isBack, .ref r_told, .ref r_bestSeats, .ref r_firstSeats, .int i_bestPass, .int i_bestAll, .int i_leastAll, .int i_fits, .int i_mayBeForged, .int i_restMany, .int i_restAll, .int i_restMost, .int i_mostAll, .ref r_restLearn, .ref r_marksNow, .ref r_row, .int i_rows, .int i_seed])), (r_tape, .inl (cI, 64, .inl tf)), (r_begins, .inl (cC, 7, .inl bg))] H := hP
              have hD : va_D A [(h0, .inr (6, [.ref r_refused, .ref r_now, .ref r_then, .ref r_before, .ref r_asIs, .int i_kept, .ref r_tape, .int i_taped, .int (i_at + 1), .int i_well, .ref r_begins, .ref r_kinds, .int i_sort, .ref r_field, .ref r_willTeach, .ref r_isBack, .ref r_told, .ref r_bestSeats, .ref r_firstSeats, .int i_bestPass, .int i_bestAll, .int i_leastAll, .int i_fits, .int i_mayBeForged, .int i_restMany, .int i_restAll, .int i_restMost, .int i_mostAll, .ref r_restLearn, .ref r_marksNow, .ref r_row, .int i_rows, .int i_seed])), (r_tape, .inl (cI, 64, .inl tf)), (r_begins, .inl (cC, 7, .inl bg))] := hD
              refine lv_iload_n hx hb dX8_oneOf_76 rfl (lv_at hl 1 rfl) ?_
              exact vx_iret (u := ((fun k => ([(i_at + 1), i_well] : List Int32).getD k 0), (fun k => ([] : List (Nat → Int32)).getD k (fun _ => 0)))) hx hb hr hlocks hK hP hD hS [0, 1, 2] rfl (by decide) ⟨(by decide), (show 0 ≤ (i_at + 1).toInt ∧ (i_at + 1).toInt ≤ 64 from ⟨by omega, by omega⟩), (show 0 ≤ i_well.toInt ∧ i_well.toInt ≤ 1 from ⟨by omega, by omega⟩), (show OneB tf i_taped.toInt i_well.toInt i_at.toInt 3 (i_at + 1).toInt i_well.toInt from (by unfold OneB; omega)), trivial⟩ dX8_oneOf_77
          · have c27 : x15.toInt = 108 := vy_eq c27
            refine lv_iload_n hx hb dX8_oneOf_47 rfl (lv_at hl 0 rfl) ?_
            refine lv_istore_n (lv' := [(2, .int 2), (3, .int 2), (0, .ref h0), (1, .ref r_begins)]) hx hb dX8_oneOf_48 rfl hl (by decide) rfl (fun ls hl => ?_)
            refine lv_iinc (v := 3) (lv' := [(3, .int 3), (2, .int 2), (0, .ref h0), (1, .ref r_begins)]) hx hb dX8_oneOf_49 hl (k := 1) rfl (by decide) (by decide) rfl (fun ls hl => ?_)
            refine lv_goto (tgt := 4) hx hb dX8_oneOf_52 (by decide) ?_
            refine lv_iload_n hx hb dX8_oneOf_4 rfl (lv_at hl 0 rfl) ?_
            refine lv_aload_n hx hb dX8_oneOf_5 rfl (lv_at hl 3 rfl) ?_
            refine va_alen hx hb hK hP 2 1 rfl rfl (v := 7) rfl dX8_oneOf_6 ?_
            refine lv_icmp_ge (tgt := 55) hx hb dX8_oneOf_7 (by decide) (fun c0 => absurd c0 (by decide)) (fun _ => ?_)
            refine lv_aload_n hx hb dX8_oneOf_10 rfl (lv_at hl 2 rfl) ?_
            refine va_get (D := (dC, dI)) (ci := 6) (v := .int i_well) (C := RX8) (T := TX8) (N := 33) hx hb hts iX8 hown hK hP 0 rfl rfl 9 (by decide) (hts (.fieldLink RX8 79 "NeighboursMarkModel" "well" "Z") (vm_at 1 rfl)) (fun _ h9 => h9) rfl dX8_oneOf_11 ?_
            refine lv_if_eq (tgt := 55) hx hb dX8_oneOf_14 (by decide) (fun c55 => by exfalso; have h9 : i_well.toInt = 0 := vy_eq c55; omega) (fun c55 => ?_)
            have c55 : i_well.toInt ≠ 0 := vy_ne c55
            refine lv_iload_n hx hb dX8_oneOf_17 rfl (lv_at hl 1 rfl) ?_
            refine lv_if_ge (tgt := 55) hx hb dX8_oneOf_18 (by decide) (fun _ => ?_) (fun c0 => absurd (by decide) c0)
            refine lv_iload_n hx hb dX8_oneOf_55 rfl (lv_at hl 1 rfl) ?_
            refine lv_if_ge (tgt := 66) hx hb dX8_oneOf_56 (by decide) (fun _ => ?_) (fun c0 => absurd (by decide) c0)
            refine lv_aload_n hx hb dX8_oneOf_66 rfl (lv_at hl 2 rfl) ?_
            refine lv_dup hx hb dX8_oneOf_67 rfl ?_
            refine va_get (D := (dC, dI)) (ci := 6) (v := .int i_at) (C := RX8) (T := TX8) (N := 33) hx hb hts iX8 hown hK hP 0 rfl rfl 8 (by decide) (hts (.fieldLink RX8 82 "NeighboursMarkModel" "at" "I") (vm_at 2 rfl)) (fun _ h9 => h9) rfl dX8_oneOf_68 ?_
            refine lv_iconst (v := 1) hx hb dX8_oneOf_71 (by decide) ?_
            refine lv_iadd hx hb dX8_oneOf_72 ?_
            have f56 := vy_add (x := i_at) (y := 1) rfl (show ((1 : Int32)).toInt = 1 by decide) (by omega) (by omega)
            refine va_put (D := (dC, dI)) (ci := 6) (v := .int (i_at + 1)) (ty := .int) (C := RX8) (T := TX8) (N := 33) hx hb hts iX8 tyX8 tyX8_ok nmX8 hown hK hP hD hS 0 rfl rfl 8 (by decide) (hts (.fieldLink RX8 82 "NeighboursMarkModel" "at" "I") (vm_at 2 rfl)) (fun _ h9 => h9) rfl (tyX8_ok 8 (by decide)) rfl rfl (Nat.le_of_ble_eq_true rfl) dX8_oneOf_73 (fun H locs hP hD hS => ?_)
            have hP : va_P (dC, dI) vwCl [(h0, .inr (6, [.ref r_refused, .ref r_now, .ref r_then, .ref r_before, .ref r_asIs, .int i_kept, .ref r_tape, .int i_taped, .int (i_at + 1), .int i_well, .ref r_begins, .ref r_kinds, .int i_sort, .ref r_field, .ref r_willTeach, .ref r_isBack, .ref r_told, .ref r_bestSeats, .ref r_firstSeats, .int i_bestPass, .int i_bestAll, .int i_leastAll, .int i_fits, .int i_mayBeForged, .int i_restMany, .int i_restAll, .int i_restMost, .int i_mostAll, .ref r_restLearn, .ref r_marksNow, .ref r_row, .int i_rows, .int i_seed])), (r_tape, .inl (cI, 64, .inl tf)), (r_begins, .inl (cC, 7, .inl bg))] H := hP
            have hD : va_D A [(h0, .inr (6, [.ref r_refused, .ref r_now, .ref r_then, .ref r_before, .ref r_asIs, .int i_kept, .ref r_tape, .int i_taped, .int (i_at + 1), .int i_well, .ref r_begins, .ref r_kinds, .int i_sort, .ref r_field, .ref r_willTeach, .ref r_isBack, .ref r_told, .ref r_bestSeats, .ref r_firstSeats, .int i_bestPass, .int i_bestAll, .int i_leastAll, .int i_fits, .int i_mayBeForged, .int i_restMany, .int i_restAll, .int i_restMost, .int i_mostAll, .ref r_restLearn, .ref r_marksNow, .ref r_row, .int i_rows, .int i_seed])), (r_tape, .inl (cI, 64, .inl tf)), (r_begins, .inl (cC, 7, .inl bg))] := hD
            refine lv_iload_n hx hb dX8_oneOf_76 rfl (lv_at hl 1 rfl) ?_
            exact vx_iret (u := ((fun k => ([(i_at + 1), i_well] : List Int32).getD k 0), (fun k => ([] : List (Nat → Int32)).getD k (fun _ => 0)))) hx hb hr hlocks hK hP hD hS [0, 1, 2] rfl (by decide) ⟨(by decide), (show 0 ≤ (i_at + 1).toInt ∧ (i_at + 1).toInt ≤ 64 from ⟨by omega, by omega⟩), (show 0 ≤ i_well.toInt ∧ i_well.toInt ≤ 1 from ⟨by omega, by omega⟩), (show OneB tf i_taped.toInt i_well.toInt i_at.toInt 2 (i_at + 1).toInt i_well.toInt from (by unfold OneB; omega)), trivial⟩ dX8_oneOf_77
        · have c22 : x15.toInt = 104 := vy_eq c22
          refine lv_iload_n hx hb dX8_oneOf_47 rfl (lv_at hl 0 rfl) ?_
          refine lv_istore_n (lv' := [(2, .int 1), (3, .int 1), (0, .ref h0), (1, .ref r_begins)]) hx hb dX8_oneOf_48 rfl hl (by decide) rfl (fun ls hl => ?_)
          refine lv_iinc (v := 2) (lv' := [(3, .int 2), (2, .int 1), (0, .ref h0), (1, .ref r_begins)]) hx hb dX8_oneOf_49 hl (k := 1) rfl (by decide) (by decide) rfl (fun ls hl => ?_)
          refine lv_goto (tgt := 4) hx hb dX8_oneOf_52 (by decide) ?_
          refine lv_iload_n hx hb dX8_oneOf_4 rfl (lv_at hl 0 rfl) ?_
          refine lv_aload_n hx hb dX8_oneOf_5 rfl (lv_at hl 3 rfl) ?_
          refine va_alen hx hb hK hP 2 1 rfl rfl (v := 7) rfl dX8_oneOf_6 ?_
          refine lv_icmp_ge (tgt := 55) hx hb dX8_oneOf_7 (by decide) (fun c0 => absurd c0 (by decide)) (fun _ => ?_)
          refine lv_aload_n hx hb dX8_oneOf_10 rfl (lv_at hl 2 rfl) ?_
          refine va_get (D := (dC, dI)) (ci := 6) (v := .int i_well) (C := RX8) (T := TX8) (N := 33) hx hb hts iX8 hown hK hP 0 rfl rfl 9 (by decide) (hts (.fieldLink RX8 79 "NeighboursMarkModel" "well" "Z") (vm_at 1 rfl)) (fun _ h9 => h9) rfl dX8_oneOf_11 ?_
          refine lv_if_eq (tgt := 55) hx hb dX8_oneOf_14 (by decide) (fun c57 => by exfalso; have h9 : i_well.toInt = 0 := vy_eq c57; omega) (fun c57 => ?_)
          have c57 : i_well.toInt ≠ 0 := vy_ne c57
          refine lv_iload_n hx hb dX8_oneOf_17 rfl (lv_at hl 1 rfl) ?_
          refine lv_if_ge (tgt := 55) hx hb dX8_oneOf_18 (by decide) (fun _ => ?_) (fun c0 => absurd (by decide) c0)
          refine lv_iload_n hx hb dX8_oneOf_55 rfl (lv_at hl 1 rfl) ?_
          refine lv_if_ge (tgt := 66) hx hb dX8_oneOf_56 (by decide) (fun _ => ?_) (fun c0 => absurd (by decide) c0)
          refine lv_aload_n hx hb dX8_oneOf_66 rfl (lv_at hl 2 rfl) ?_
          refine lv_dup hx hb dX8_oneOf_67 rfl ?_
          refine va_get (D := (dC, dI)) (ci := 6) (v := .int i_at) (C := RX8) (T := TX8) (N := 33) hx hb hts iX8 hown hK hP 0 rfl rfl 8 (by decide) (hts (.fieldLink RX8 82 "NeighboursMarkModel" "at" "I") (vm_at 2 rfl)) (fun _ h9 => h9) rfl dX8_oneOf_68 ?_
          refine lv_iconst (v := 1) hx hb dX8_oneOf_71 (by decide) ?_
          refine lv_iadd hx hb dX8_oneOf_72 ?_
          have f58 := vy_add (x := i_at) (y := 1) rfl (show ((1 : Int32)).toInt = 1 by decide) (by omega) (by omega)
          refine va_put (D := (dC, dI)) (ci := 6) (v := .int (i_at + 1)) (ty := .int) (C := RX8) (T := TX8) (N := 33) hx hb hts iX8 tyX8 tyX8_ok nmX8 hown hK hP hD hS 0 rfl rfl 8 (by decide) (hts (.fieldLink RX8 82 "NeighboursMarkModel" "at" "I") (vm_at 2 rfl)) (fun _ h9 => h9) rfl (tyX8_ok 8 (by decide)) rfl rfl (Nat.le_of_ble_eq_true rfl) dX8_oneOf_73 (fun H locs hP hD hS => ?_)
          have hP : va_P (dC, dI) vwCl [(h0, .inr (6, [.ref r_refused, .ref r_now, .ref r_then, .ref r_before, .ref r_asIs, .int i_kept, .ref r_tape, .int i_taped, .int (i_at + 1), .int i_well, .ref r_begins, .ref r_kinds, .int i_sort, .ref r_field, .ref r_willTeach, .ref r_isBack, .ref r_told, .ref r_bestSeats, .ref r_firstSeats, .int i_bestPass, .int i_bestAll, .int i_leastAll, .int i_fits, .int i_mayBeForged, .int i_restMany, .int i_restAll, .int i_restMost, .int i_mostAll, .ref r_restLearn, .ref r_marksNow, .ref r_row, .int i_rows, .int i_seed])), (r_tape, .inl (cI, 64, .inl tf)), (r_begins, .inl (cC, 7, .inl bg))] H := hP
          have hD : va_D A [(h0, .inr (6, [.ref r_refused, .ref r_now, .ref r_then, .ref r_before, .ref r_asIs, .int i_kept, .ref r_tape, .int i_taped, .int (i_at + 1), .int i_well, .ref r_begins, .ref r_kinds, .int i_sort, .ref r_field, .ref r_willTeach, .ref r_isBack, .ref r_told, .ref r_bestSeats, .ref r_firstSeats, .int i_bestPass, .int i_bestAll, .int i_leastAll, .int i_fits, .int i_mayBeForged, .int i_restMany, .int i_restAll, .int i_restMost, .int i_mostAll, .ref r_restLearn, .ref r_marksNow, .ref r_row, .int i_rows, .int i_seed])), (r_tape, .inl (cI, 64, .inl tf)), (r_begins, .inl (cC, 7, .inl bg))] := hD
          refine lv_iload_n hx hb dX8_oneOf_76 rfl (lv_at hl 1 rfl) ?_
          exact vx_iret (u := ((fun k => ([(i_at + 1), i_well] : List Int32).getD k 0), (fun k => ([] : List (Nat → Int32)).getD k (fun _ => 0)))) hx hb hr hlocks hK hP hD hS [0, 1, 2] rfl (by decide) ⟨(by decide), (show 0 ≤ (i_at + 1).toInt ∧ (i_at + 1).toInt ≤ 64 from ⟨by omega, by omega⟩), (show 0 ≤ i_well.toInt ∧ i_well.toInt ≤ 1 from ⟨by omega, by omega⟩), (show OneB tf i_taped.toInt i_well.toInt i_at.toInt 1 (i_at + 1).toInt i_well.toInt from (by unfold OneB; omega)), trivial⟩ dX8_oneOf_77
      · have c17 : x15.toInt = 112 := vy_eq c17
        refine lv_iload_n hx hb dX8_oneOf_47 rfl (lv_at hl 0 rfl) ?_
        refine lv_istore_n (lv' := [(2, .int 0), (3, .int 0), (0, .ref h0), (1, .ref r_begins)]) hx hb dX8_oneOf_48 rfl hl (by decide) rfl (fun ls hl => ?_)
        refine lv_iinc (v := 1) (lv' := [(3, .int 1), (2, .int 0), (0, .ref h0), (1, .ref r_begins)]) hx hb dX8_oneOf_49 hl (k := 1) rfl (by decide) (by decide) rfl (fun ls hl => ?_)
        refine lv_goto (tgt := 4) hx hb dX8_oneOf_52 (by decide) ?_
        refine lv_iload_n hx hb dX8_oneOf_4 rfl (lv_at hl 0 rfl) ?_
        refine lv_aload_n hx hb dX8_oneOf_5 rfl (lv_at hl 3 rfl) ?_
        refine va_alen hx hb hK hP 2 1 rfl rfl (v := 7) rfl dX8_oneOf_6 ?_
        refine lv_icmp_ge (tgt := 55) hx hb dX8_oneOf_7 (by decide) (fun c0 => absurd c0 (by decide)) (fun _ => ?_)
        refine lv_aload_n hx hb dX8_oneOf_10 rfl (lv_at hl 2 rfl) ?_
        refine va_get (D := (dC, dI)) (ci := 6) (v := .int i_well) (C := RX8) (T := TX8) (N := 33) hx hb hts iX8 hown hK hP 0 rfl rfl 9 (by decide) (hts (.fieldLink RX8 79 "NeighboursMarkModel" "well" "Z") (vm_at 1 rfl)) (fun _ h9 => h9) rfl dX8_oneOf_11 ?_
        refine lv_if_eq (tgt := 55) hx hb dX8_oneOf_14 (by decide) (fun c59 => by exfalso; have h9 : i_well.toInt = 0 := vy_eq c59; omega) (fun c59 => ?_)
        have c59 : i_well.toInt ≠ 0 := vy_ne c59
        refine lv_iload_n hx hb dX8_oneOf_17 rfl (lv_at hl 1 rfl) ?_
        refine lv_if_ge (tgt := 55) hx hb dX8_oneOf_18 (by decide) (fun _ => ?_) (fun c0 => absurd (by decide) c0)
        refine lv_iload_n hx hb dX8_oneOf_55 rfl (lv_at hl 1 rfl) ?_
        refine lv_if_ge (tgt := 66) hx hb dX8_oneOf_56 (by decide) (fun _ => ?_) (fun c0 => absurd (by decide) c0)
        refine lv_aload_n hx hb dX8_oneOf_66 rfl (lv_at hl 2 rfl) ?_
        refine lv_dup hx hb dX8_oneOf_67 rfl ?_
        refine va_get (D := (dC, dI)) (ci := 6) (v := .int i_at) (C := RX8) (T := TX8) (N := 33) hx hb hts iX8 hown hK hP 0 rfl rfl 8 (by decide) (hts (.fieldLink RX8 82 "NeighboursMarkModel" "at" "I") (vm_at 2 rfl)) (fun _ h9 => h9) rfl dX8_oneOf_68 ?_
        refine lv_iconst (v := 1) hx hb dX8_oneOf_71 (by decide) ?_
        refine lv_iadd hx hb dX8_oneOf_72 ?_
        have f60 := vy_add (x := i_at) (y := 1) rfl (show ((1 : Int32)).toInt = 1 by decide) (by omega) (by omega)
        refine va_put (D := (dC, dI)) (ci := 6) (v := .int (i_at + 1)) (ty := .int) (C := RX8) (T := TX8) (N := 33) hx hb hts iX8 tyX8 tyX8_ok nmX8 hown hK hP hD hS 0 rfl rfl 8 (by decide) (hts (.fieldLink RX8 82 "NeighboursMarkModel" "at" "I") (vm_at 2 rfl)) (fun _ h9 => h9) rfl (tyX8_ok 8 (by decide)) rfl rfl (Nat.le_of_ble_eq_true rfl) dX8_oneOf_73 (fun H locs hP hD hS => ?_)
        have hP : va_P (dC, dI) vwCl [(h0, .inr (6, [.ref r_refused, .ref r_now, .ref r_then, .ref r_before, .ref r_asIs, .int i_kept, .ref r_tape, .int i_taped, .int (i_at + 1), .int i_well, .ref r_begins, .ref r_kinds, .int i_sort, .ref r_field, .ref r_willTeach, .ref r_isBack, .ref r_told, .ref r_bestSeats, .ref r_firstSeats, .int i_bestPass, .int i_bestAll, .int i_leastAll, .int i_fits, .int i_mayBeForged, .int i_restMany, .int i_restAll, .int i_restMost, .int i_mostAll, .ref r_restLearn, .ref r_marksNow, .ref r_row, .int i_rows, .int i_seed])), (r_tape, .inl (cI, 64, .inl tf)), (r_begins, .inl (cC, 7, .inl bg))] H := hP
        have hD : va_D A [(h0, .inr (6, [.ref r_refused, .ref r_now, .ref r_then, .ref r_before, .ref r_asIs, .int i_kept, .ref r_tape, .int i_taped, .int (i_at + 1), .int i_well, .ref r_begins, .ref r_kinds, .int i_sort, .ref r_field, .ref r_willTeach, .ref r_isBack, .ref r_told, .ref r_bestSeats, .ref r_firstSeats, .int i_bestPass, .int i_bestAll, .int i_leastAll, .int i_fits, .int i_mayBeForged, .int i_restMany, .int i_restAll, .int i_restMost, .int i_mostAll, .ref r_restLearn, .ref r_marksNow, .ref r_row, .int i_rows, .int i_seed])), (r_tape, .inl (cI, 64, .inl tf)), (r_begins, .inl (cC, 7, .inl bg))] := hD
        refine lv_iload_n hx hb dX8_oneOf_76 rfl (lv_at hl 1 rfl) ?_
        exact vx_iret (u := ((fun k => ([(i_at + 1), i_well] : List Int32).getD k 0), (fun k => ([] : List (Nat → Int32)).getD k (fun _ => 0)))) hx hb hr hlocks hK hP hD hS [0, 1, 2] rfl (by decide) ⟨(by decide), (show 0 ≤ (i_at + 1).toInt ∧ (i_at + 1).toInt ≤ 64 from ⟨by omega, by omega⟩), (show 0 ≤ i_well.toInt ∧ i_well.toInt ≤ 1 from ⟨by omega, by omega⟩), (show OneB tf i_taped.toInt i_well.toInt i_at.toInt 0 (i_at + 1).toInt i_well.toInt from (by unfold OneB; omega)), trivial⟩ dX8_oneOf_77
set_option maxHeartbeats 8000000 in
set_option maxRecDepth 100000 in
theorem r_oneOfK (l : Launch) (dC : Nat → ClassId) (dI : Nat → Nat → Nat) (cI cC cZ : ClassId) (sz : Nat) (h0 r_kinds r_refused r_now r_then r_before r_asIs r_tape r_begins r_field r_willTeach r_isBack r_told r_bestSeats r_firstSeats r_restLearn r_marksNow r_row : Nat) (i_kept i_taped i_at i_well i_sort i_bestPass i_bestAll i_leastAll i_fits i_mayBeForged i_restMany i_restAll i_restMost i_mostAll i_rows i_seed : Int32) (tf kd : Nat → Int32) (b_i_kept : 0 ≤ i_kept.toInt ∧ i_kept.toInt ≤ 1) (b_i_taped : 0 ≤ i_taped.toInt ∧ i_taped.toInt ≤ 64) (b_i_at : 0 ≤ i_at.toInt ∧ i_at.toInt ≤ 64) (b_i_well : 0 ≤ i_well.toInt ∧ i_well.toInt ≤ 1) (b_i_sort : 0 ≤ i_sort.toInt ∧ i_sort.toInt ≤ 6) (b_i_rows : 0 ≤ i_rows.toInt ∧ i_rows.toInt ≤ 6) (kd_0 : kd 0 = 115) (kd_1 : kd 1 = 108) (kd_2 : kd 2 = 104) (kd_3 : kd 3 = 116) (kd_4 : kd 4 = 98) (kd_5 : kd 5 = 111) : Met l yX8_oneOf wsX8_oneOf ({ frames := 0, cells := 0, slots := 0, locals := 0 }) (va_Pc [.ref h0, .ref r_kinds] (vx_B (dC, dI) (vx_T cI cC cZ) sz [(h0, .inr (6, [.ref r_refused, .ref r_now, .ref r_then, .ref r_before, .ref r_asIs, .int i_kept, .ref r_tape, .int i_taped, .int i_at, .int i_well, .ref r_begins, .ref r_kinds, .int i_sort, .ref r_field, .ref r_willTeach, .ref r_isBack, .ref r_told, .ref r_bestSeats, .ref r_firstSeats, .int i_bestPass, .int i_bestAll, .int i_leastAll, .int i_fits, .int i_mayBeForged, .int i_restMany, .int i_restAll, .int i_restMost, .int i_mostAll, .ref r_restLearn, .ref r_marksNow, .ref r_row, .int i_rows, .int i_seed])), (r_tape, .inl (cI, 64, .inl tf)), (r_kinds, .inl (cC, 6, .inl kd))])) (va_Qi (fun (r : Int32) (u : (Nat → Int32) × (Nat → Nat → Int32)) => (0 ≤ r.toInt ∧ r.toInt ≤ 5) ∧ (0 ≤ (u.1 0).toInt ∧ (u.1 0).toInt ≤ 64) ∧ (0 ≤ (u.1 1).toInt ∧ (u.1 1).toInt ≤ 1) ∧ (OneK tf i_taped.toInt i_well.toInt i_at.toInt r.toInt (u.1 0).toInt (u.1 1).toInt) ∧ True) (vx_C (dC, dI) (vx_T cI cC cZ) (va_A [(h0, .inr (6, [.ref r_refused, .ref r_now, .ref r_then, .ref r_before, .ref r_asIs, .int i_kept, .ref r_tape, .int i_taped, .int i_at, .int i_well, .ref r_begins, .ref r_kinds, .int i_sort, .ref r_field, .ref r_willTeach, .ref r_isBack, .ref r_told, .ref r_bestSeats, .ref r_firstSeats, .int i_bestPass, .int i_bestAll, .int i_leastAll, .int i_fits, .int i_mayBeForged, .int i_restMany, .int i_restAll, .int i_restMost, .int i_mostAll, .ref r_restLearn, .ref r_marksNow, .ref r_row, .int i_rows, .int i_seed])), (r_tape, .inl (cI, 64, .inl tf)), (r_kinds, .inl (cC, 6, .inl kd))] sz) (fun (u : (Nat → Int32) × (Nat → Nat → Int32)) => [(h0, .inr (6, [.ref r_refused, .ref r_now, .ref r_then, .ref r_before, .ref r_asIs, .int i_kept, .ref r_tape, .int i_taped, .int (u.1 0), .int (u.1 1), .ref r_begins, .ref r_kinds, .int i_sort, .ref r_field, .ref r_willTeach, .ref r_isBack, .ref r_told, .ref r_bestSeats, .ref r_firstSeats, .int i_bestPass, .int i_bestAll, .int i_leastAll, .int i_fits, .int i_mayBeForged, .int i_restMany, .int i_restAll, .int i_restMost, .int i_mostAll, .ref r_restLearn, .ref r_marksNow, .ref r_row, .int i_rows, .int i_seed])), (r_tape, .inl (cI, 64, .inl tf)), (r_kinds, .inl (cC, 6, .inl kd))])) (va_A [(h0, .inr (6, [.ref r_refused, .ref r_now, .ref r_then, .ref r_before, .ref r_asIs, .int i_kept, .ref r_tape, .int i_taped, .int i_at, .int i_well, .ref r_begins, .ref r_kinds, .int i_sort, .ref r_field, .ref r_willTeach, .ref r_isBack, .ref r_told, .ref r_bestSeats, .ref r_firstSeats, .int i_bestPass, .int i_bestAll, .int i_leastAll, .int i_fits, .int i_mayBeForged, .int i_restMany, .int i_restAll, .int i_restMost, .int i_mostAll, .ref r_restLearn, .ref r_marksNow, .ref r_row, .int i_rows, .int i_seed])), (r_tape, .inl (cI, 64, .inl tf)), (r_kinds, .inl (cC, 6, .inl kd))] sz)) 0 0 (va_A [(h0, .inr (6, [.ref r_refused, .ref r_now, .ref r_then, .ref r_before, .ref r_asIs, .int i_kept, .ref r_tape, .int i_taped, .int i_at, .int i_well, .ref r_begins, .ref r_kinds, .int i_sort, .ref r_field, .ref r_willTeach, .ref r_isBack, .ref r_told, .ref r_bestSeats, .ref r_firstSeats, .int i_bestPass, .int i_bestAll, .int i_leastAll, .int i_fits, .int i_mayBeForged, .int i_restMany, .int i_restAll, .int i_restMost, .int i_mostAll, .ref r_restLearn, .ref r_marksNow, .ref r_row, .int i_rows, .int i_seed])), (r_tape, .inl (cI, 64, .inl tf)), (r_kinds, .inl (cC, 6, .inl kd))] sz) := by
  refine Met.ofW (cc := cX8_oneOf) (maxL := 4) (ret := (some .int)) (by decide) rfl ?_
  intro p e s m args below meth c s₁ B hml hv
  obtain ⟨rfl, hsz, hP, hK, hD0, hN⟩ := hv
  have hx := B.exec
  have hb := B.bytes
  have hr := B.returns
  have hts := atoms_spec (ws := wsX8_oneOf) B.pre
  have hown : s.vm.findClass RX8 = some m.cls := findClass_of_methodNamed B.named
  have hlocks := B.notSynchronized
  subst hsz
  have hD := hD0.self (sz := s.heap.size)
  generalize hAe : va_A [(h0, .inr (6, [.ref r_refused, .ref r_now, .ref r_then, .ref r_before, .ref r_asIs, .int i_kept, .ref r_tape, .int i_taped, .int i_at, .int i_well, .ref r_begins, .ref r_kinds, .int i_sort, .ref r_field, .ref r_willTeach, .ref r_isBack, .ref r_told, .ref r_bestSeats, .ref r_firstSeats, .int i_bestPass, .int i_bestAll, .int i_leastAll, .int i_fits, .int i_mayBeForged, .int i_restMany, .int i_restAll, .int i_restMost, .int i_mostAll, .ref r_restLearn, .ref r_marksNow, .ref r_row, .int i_rows, .int i_seed])), (r_tape, .inl (cI, 64, .inl tf)), (r_kinds, .inl (cC, 6, .inl kd))] s.heap.size = A at hD hN ⊢
  have hA : ∀ q : Nat, s.heap.size ≤ q → A q := fun q h => by rw [← hAe]; exact Or.inr h
  have hS : va_S A s.heap s.heap [] := va_S.rf
  have hl := lv_entry ([.ref h0, .ref r_kinds]) (n := 4) (Nat.le_of_ble_eq_true rfl)
  rw [lg_entry_eq]
  generalize (lg_sl ([.ref h0, .ref r_kinds]) ++ List.replicate (4 - (lg_sl ([.ref h0, .ref r_kinds])).length) Slot.unset).toArray = ls at hl ⊢
  have hl : lv_has ls 4 [(0, .ref h0), (1, .ref r_kinds)] := hl
  have iX8 : ∀ w ∈ u_ws RX8 TX8 33, w ∈ wsX8_oneOf := fun w h => (List.mem_cons_of_mem _ (List.mem_append_right _ h))
  refine lv_iconst (v := (-1)) hx hb dX8_oneOf_0 (by decide) ?_
  refine lv_istore_n (lv' := [(2, .int (-1)), (0, .ref h0), (1, .ref r_kinds)]) hx hb dX8_oneOf_1 rfl hl (by decide) rfl (fun ls hl => ?_)
  refine lv_iconst (v := 0) hx hb dX8_oneOf_2 (by decide) ?_
  refine lv_istore_n (lv' := [(3, .int 0), (2, .int (-1)), (0, .ref h0), (1, .ref r_kinds)]) hx hb dX8_oneOf_3 rfl hl (by decide) rfl (fun ls hl => ?_)
  refine lv_iload_n hx hb dX8_oneOf_4 rfl (lv_at hl 0 rfl) ?_
  refine lv_aload_n hx hb dX8_oneOf_5 rfl (lv_at hl 3 rfl) ?_
  refine va_alen hx hb hK hP 2 1 rfl rfl (v := 6) rfl dX8_oneOf_6 ?_
  refine lv_icmp_ge (tgt := 55) hx hb dX8_oneOf_7 (by decide) (fun c0 => absurd c0 (by decide)) (fun _ => ?_)
  refine lv_aload_n hx hb dX8_oneOf_10 rfl (lv_at hl 2 rfl) ?_
  refine va_get (D := (dC, dI)) (ci := 6) (v := .int i_well) (C := RX8) (T := TX8) (N := 33) hx hb hts iX8 hown hK hP 0 rfl rfl 9 (by decide) (hts (.fieldLink RX8 79 "NeighboursMarkModel" "well" "Z") (vm_at 1 rfl)) (fun _ h9 => h9) rfl dX8_oneOf_11 ?_
  refine lv_if_eq (tgt := 55) hx hb dX8_oneOf_14 (by decide) (fun c1 => ?_) (fun c1 => ?_)
  · have c1 : i_well.toInt = 0 := vy_eq c1
    refine lv_iload_n hx hb dX8_oneOf_55 rfl (lv_at hl 1 rfl) ?_
    refine lv_if_ge (tgt := 66) hx hb dX8_oneOf_56 (by decide) (fun c0 => absurd c0 (by decide)) (fun _ => ?_)
    refine lv_aload_n hx hb dX8_oneOf_59 rfl (lv_at hl 2 rfl) ?_
    refine lv_iconst (v := 0) hx hb dX8_oneOf_60 (by decide) ?_
    refine va_put (D := (dC, dI)) (ci := 6) (v := .int 0) (ty := .boolean) (C := RX8) (T := TX8) (N := 33) hx hb hts iX8 tyX8 tyX8_ok nmX8 hown hK hP hD hS 0 rfl rfl 9 (by decide) (hts (.fieldLink RX8 79 "NeighboursMarkModel" "well" "Z") (vm_at 1 rfl)) (fun _ h9 => h9) rfl (tyX8_ok 9 (by decide)) rfl rfl (Nat.le_of_ble_eq_true rfl) dX8_oneOf_61 (fun H locs hP hD hS => ?_)
    have hP : va_P (dC, dI) vwCl [(h0, .inr (6, [.ref r_refused, .ref r_now, .ref r_then, .ref r_before, .ref r_asIs, .int i_kept, .ref r_tape, .int i_taped, .int i_at, .int 0, .ref r_begins, .ref r_kinds, .int i_sort, .ref r_field, .ref r_willTeach, .ref r_isBack, .ref r_told, .ref r_bestSeats, .ref r_firstSeats, .int i_bestPass, .int i_bestAll, .int i_leastAll, .int i_fits, .int i_mayBeForged, .int i_restMany, .int i_restAll, .int i_restMost, .int i_mostAll, .ref r_restLearn, .ref r_marksNow, .ref r_row, .int i_rows, .int i_seed])), (r_tape, .inl (cI, 64, .inl tf)), (r_kinds, .inl (cC, 6, .inl kd))] H := hP
    have hD : va_D A [(h0, .inr (6, [.ref r_refused, .ref r_now, .ref r_then, .ref r_before, .ref r_asIs, .int i_kept, .ref r_tape, .int i_taped, .int i_at, .int 0, .ref r_begins, .ref r_kinds, .int i_sort, .ref r_field, .ref r_willTeach, .ref r_isBack, .ref r_told, .ref r_bestSeats, .ref r_firstSeats, .int i_bestPass, .int i_bestAll, .int i_leastAll, .int i_fits, .int i_mayBeForged, .int i_restMany, .int i_restAll, .int i_restMost, .int i_mostAll, .ref r_restLearn, .ref r_marksNow, .ref r_row, .int i_rows, .int i_seed])), (r_tape, .inl (cI, 64, .inl tf)), (r_kinds, .inl (cC, 6, .inl kd))] := hD
    refine lv_iconst (v := 0) hx hb dX8_oneOf_64 (by decide) ?_
    exact vx_iret (u := ((fun k => ([i_at, 0] : List Int32).getD k 0), (fun k => ([] : List (Nat → Int32)).getD k (fun _ => 0)))) hx hb hr hlocks hK hP hD hS [0, 1, 2] rfl (by decide) ⟨(by decide), (show 0 ≤ i_at.toInt ∧ i_at.toInt ≤ 64 from ⟨by omega, by omega⟩), (show 0 ≤ (0 : Int32).toInt ∧ (0 : Int32).toInt ≤ 1 by decide), (show OneK tf i_taped.toInt i_well.toInt i_at.toInt 0 i_at.toInt 0 from (by unfold OneK; omega)), trivial⟩ dX8_oneOf_65
  · have c1 : i_well.toInt ≠ 0 := vy_ne c1
    refine lv_iload_n hx hb dX8_oneOf_17 rfl (lv_at hl 1 rfl) ?_
    refine lv_if_ge (tgt := 55) hx hb dX8_oneOf_18 (by decide) (fun c0 => absurd c0 (by decide)) (fun _ => ?_)
    refine lv_aload_n hx hb dX8_oneOf_21 rfl (lv_at hl 2 rfl) ?_
    refine va_get (D := (dC, dI)) (ci := 6) (v := .int i_at) (C := RX8) (T := TX8) (N := 33) hx hb hts iX8 hown hK hP 0 rfl rfl 8 (by decide) (hts (.fieldLink RX8 82 "NeighboursMarkModel" "at" "I") (vm_at 2 rfl)) (fun _ h9 => h9) rfl dX8_oneOf_22 ?_
    refine lv_aload_n hx hb dX8_oneOf_25 rfl (lv_at hl 2 rfl) ?_
    refine va_get (D := (dC, dI)) (ci := 6) (v := .int i_taped) (C := RX8) (T := TX8) (N := 33) hx hb hts iX8 hown hK hP 0 rfl rfl 7 (by decide) (hts (.fieldLink RX8 75 "NeighboursMarkModel" "taped" "I") (vm_at 3 rfl)) (fun _ h9 => h9) rfl dX8_oneOf_26 ?_
    refine lv_icmp_ge (tgt := 49) hx hb dX8_oneOf_29 (by decide) (fun c2 => ?_) (fun c2 => ?_)
    · have c2 : i_at.toInt ≥ i_taped.toInt := vy_le c2
      refine lv_iinc (v := 1) (lv' := [(3, .int 1), (2, .int (-1)), (0, .ref h0), (1, .ref r_kinds)]) hx hb dX8_oneOf_49 hl (k := 0) rfl (by decide) (by decide) rfl (fun ls hl => ?_)
      refine lv_goto (tgt := 4) hx hb dX8_oneOf_52 (by decide) ?_
      refine lv_iload_n hx hb dX8_oneOf_4 rfl (lv_at hl 0 rfl) ?_
      refine lv_aload_n hx hb dX8_oneOf_5 rfl (lv_at hl 3 rfl) ?_
      refine va_alen hx hb hK hP 2 1 rfl rfl (v := 6) rfl dX8_oneOf_6 ?_
      refine lv_icmp_ge (tgt := 55) hx hb dX8_oneOf_7 (by decide) (fun c0 => absurd c0 (by decide)) (fun _ => ?_)
      refine lv_aload_n hx hb dX8_oneOf_10 rfl (lv_at hl 2 rfl) ?_
      refine va_get (D := (dC, dI)) (ci := 6) (v := .int i_well) (C := RX8) (T := TX8) (N := 33) hx hb hts iX8 hown hK hP 0 rfl rfl 9 (by decide) (hts (.fieldLink RX8 79 "NeighboursMarkModel" "well" "Z") (vm_at 1 rfl)) (fun _ h9 => h9) rfl dX8_oneOf_11 ?_
      refine lv_if_eq (tgt := 55) hx hb dX8_oneOf_14 (by decide) (fun c3 => by exfalso; have h9 : i_well.toInt = 0 := vy_eq c3; omega) (fun c3 => ?_)
      have c3 : i_well.toInt ≠ 0 := vy_ne c3
      refine lv_iload_n hx hb dX8_oneOf_17 rfl (lv_at hl 1 rfl) ?_
      refine lv_if_ge (tgt := 55) hx hb dX8_oneOf_18 (by decide) (fun c0 => absurd c0 (by decide)) (fun _ => ?_)
      refine lv_aload_n hx hb dX8_oneOf_21 rfl (lv_at hl 2 rfl) ?_
      refine va_get (D := (dC, dI)) (ci := 6) (v := .int i_at) (C := RX8) (T := TX8) (N := 33) hx hb hts iX8 hown hK hP 0 rfl rfl 8 (by decide) (hts (.fieldLink RX8 82 "NeighboursMarkModel" "at" "I") (vm_at 2 rfl)) (fun _ h9 => h9) rfl dX8_oneOf_22 ?_
      refine lv_aload_n hx hb dX8_oneOf_25 rfl (lv_at hl 2 rfl) ?_
      refine va_get (D := (dC, dI)) (ci := 6) (v := .int i_taped) (C := RX8) (T := TX8) (N := 33) hx hb hts iX8 hown hK hP 0 rfl rfl 7 (by decide) (hts (.fieldLink RX8 75 "NeighboursMarkModel" "taped" "I") (vm_at 3 rfl)) (fun _ h9 => h9) rfl dX8_oneOf_26 ?_
      refine lv_icmp_ge (tgt := 49) hx hb dX8_oneOf_29 (by decide) (fun c4 => ?_) (fun c4 => by exfalso; have h9 : i_at.toInt < i_taped.toInt := vy_nle c4; omega)
      have c4 : i_at.toInt ≥ i_taped.toInt := vy_le c4
      refine lv_iinc (v := 2) (lv' := [(3, .int 2), (2, .int (-1)), (0, .ref h0), (1, .ref r_kinds)]) hx hb dX8_oneOf_49 hl (k := 0) rfl (by decide) (by decide) rfl (fun ls hl => ?_)
      refine lv_goto (tgt := 4) hx hb dX8_oneOf_52 (by decide) ?_
      refine lv_iload_n hx hb dX8_oneOf_4 rfl (lv_at hl 0 rfl) ?_
      refine lv_aload_n hx hb dX8_oneOf_5 rfl (lv_at hl 3 rfl) ?_
      refine va_alen hx hb hK hP 2 1 rfl rfl (v := 6) rfl dX8_oneOf_6 ?_
      refine lv_icmp_ge (tgt := 55) hx hb dX8_oneOf_7 (by decide) (fun c0 => absurd c0 (by decide)) (fun _ => ?_)
      refine lv_aload_n hx hb dX8_oneOf_10 rfl (lv_at hl 2 rfl) ?_
      refine va_get (D := (dC, dI)) (ci := 6) (v := .int i_well) (C := RX8) (T := TX8) (N := 33) hx hb hts iX8 hown hK hP 0 rfl rfl 9 (by decide) (hts (.fieldLink RX8 79 "NeighboursMarkModel" "well" "Z") (vm_at 1 rfl)) (fun _ h9 => h9) rfl dX8_oneOf_11 ?_
      refine lv_if_eq (tgt := 55) hx hb dX8_oneOf_14 (by decide) (fun c5 => by exfalso; have h9 : i_well.toInt = 0 := vy_eq c5; omega) (fun c5 => ?_)
      have c5 : i_well.toInt ≠ 0 := vy_ne c5
      refine lv_iload_n hx hb dX8_oneOf_17 rfl (lv_at hl 1 rfl) ?_
      refine lv_if_ge (tgt := 55) hx hb dX8_oneOf_18 (by decide) (fun c0 => absurd c0 (by decide)) (fun _ => ?_)
      refine lv_aload_n hx hb dX8_oneOf_21 rfl (lv_at hl 2 rfl) ?_
      refine va_get (D := (dC, dI)) (ci := 6) (v := .int i_at) (C := RX8) (T := TX8) (N := 33) hx hb hts iX8 hown hK hP 0 rfl rfl 8 (by decide) (hts (.fieldLink RX8 82 "NeighboursMarkModel" "at" "I") (vm_at 2 rfl)) (fun _ h9 => h9) rfl dX8_oneOf_22 ?_
      refine lv_aload_n hx hb dX8_oneOf_25 rfl (lv_at hl 2 rfl) ?_
      refine va_get (D := (dC, dI)) (ci := 6) (v := .int i_taped) (C := RX8) (T := TX8) (N := 33) hx hb hts iX8 hown hK hP 0 rfl rfl 7 (by decide) (hts (.fieldLink RX8 75 "NeighboursMarkModel" "taped" "I") (vm_at 3 rfl)) (fun _ h9 => h9) rfl dX8_oneOf_26 ?_
      refine lv_icmp_ge (tgt := 49) hx hb dX8_oneOf_29 (by decide) (fun c6 => ?_) (fun c6 => by exfalso; have h9 : i_at.toInt < i_taped.toInt := vy_nle c6; omega)
      have c6 : i_at.toInt ≥ i_taped.toInt := vy_le c6
      refine lv_iinc (v := 3) (lv' := [(3, .int 3), (2, .int (-1)), (0, .ref h0), (1, .ref r_kinds)]) hx hb dX8_oneOf_49 hl (k := 0) rfl (by decide) (by decide) rfl (fun ls hl => ?_)
      refine lv_goto (tgt := 4) hx hb dX8_oneOf_52 (by decide) ?_
      refine lv_iload_n hx hb dX8_oneOf_4 rfl (lv_at hl 0 rfl) ?_
      refine lv_aload_n hx hb dX8_oneOf_5 rfl (lv_at hl 3 rfl) ?_
      refine va_alen hx hb hK hP 2 1 rfl rfl (v := 6) rfl dX8_oneOf_6 ?_
      refine lv_icmp_ge (tgt := 55) hx hb dX8_oneOf_7 (by decide) (fun c0 => absurd c0 (by decide)) (fun _ => ?_)
      refine lv_aload_n hx hb dX8_oneOf_10 rfl (lv_at hl 2 rfl) ?_
      refine va_get (D := (dC, dI)) (ci := 6) (v := .int i_well) (C := RX8) (T := TX8) (N := 33) hx hb hts iX8 hown hK hP 0 rfl rfl 9 (by decide) (hts (.fieldLink RX8 79 "NeighboursMarkModel" "well" "Z") (vm_at 1 rfl)) (fun _ h9 => h9) rfl dX8_oneOf_11 ?_
      refine lv_if_eq (tgt := 55) hx hb dX8_oneOf_14 (by decide) (fun c7 => by exfalso; have h9 : i_well.toInt = 0 := vy_eq c7; omega) (fun c7 => ?_)
      have c7 : i_well.toInt ≠ 0 := vy_ne c7
      refine lv_iload_n hx hb dX8_oneOf_17 rfl (lv_at hl 1 rfl) ?_
      refine lv_if_ge (tgt := 55) hx hb dX8_oneOf_18 (by decide) (fun c0 => absurd c0 (by decide)) (fun _ => ?_)
      refine lv_aload_n hx hb dX8_oneOf_21 rfl (lv_at hl 2 rfl) ?_
      refine va_get (D := (dC, dI)) (ci := 6) (v := .int i_at) (C := RX8) (T := TX8) (N := 33) hx hb hts iX8 hown hK hP 0 rfl rfl 8 (by decide) (hts (.fieldLink RX8 82 "NeighboursMarkModel" "at" "I") (vm_at 2 rfl)) (fun _ h9 => h9) rfl dX8_oneOf_22 ?_
      refine lv_aload_n hx hb dX8_oneOf_25 rfl (lv_at hl 2 rfl) ?_
      refine va_get (D := (dC, dI)) (ci := 6) (v := .int i_taped) (C := RX8) (T := TX8) (N := 33) hx hb hts iX8 hown hK hP 0 rfl rfl 7 (by decide) (hts (.fieldLink RX8 75 "NeighboursMarkModel" "taped" "I") (vm_at 3 rfl)) (fun _ h9 => h9) rfl dX8_oneOf_26 ?_
      refine lv_icmp_ge (tgt := 49) hx hb dX8_oneOf_29 (by decide) (fun c8 => ?_) (fun c8 => by exfalso; have h9 : i_at.toInt < i_taped.toInt := vy_nle c8; omega)
      have c8 : i_at.toInt ≥ i_taped.toInt := vy_le c8
      refine lv_iinc (v := 4) (lv' := [(3, .int 4), (2, .int (-1)), (0, .ref h0), (1, .ref r_kinds)]) hx hb dX8_oneOf_49 hl (k := 0) rfl (by decide) (by decide) rfl (fun ls hl => ?_)
      refine lv_goto (tgt := 4) hx hb dX8_oneOf_52 (by decide) ?_
      refine lv_iload_n hx hb dX8_oneOf_4 rfl (lv_at hl 0 rfl) ?_
      refine lv_aload_n hx hb dX8_oneOf_5 rfl (lv_at hl 3 rfl) ?_
      refine va_alen hx hb hK hP 2 1 rfl rfl (v := 6) rfl dX8_oneOf_6 ?_
      refine lv_icmp_ge (tgt := 55) hx hb dX8_oneOf_7 (by decide) (fun c0 => absurd c0 (by decide)) (fun _ => ?_)
      refine lv_aload_n hx hb dX8_oneOf_10 rfl (lv_at hl 2 rfl) ?_
      refine va_get (D := (dC, dI)) (ci := 6) (v := .int i_well) (C := RX8) (T := TX8) (N := 33) hx hb hts iX8 hown hK hP 0 rfl rfl 9 (by decide) (hts (.fieldLink RX8 79 "NeighboursMarkModel" "well" "Z") (vm_at 1 rfl)) (fun _ h9 => h9) rfl dX8_oneOf_11 ?_
      refine lv_if_eq (tgt := 55) hx hb dX8_oneOf_14 (by decide) (fun c9 => by exfalso; have h9 : i_well.toInt = 0 := vy_eq c9; omega) (fun c9 => ?_)
      have c9 : i_well.toInt ≠ 0 := vy_ne c9
      refine lv_iload_n hx hb dX8_oneOf_17 rfl (lv_at hl 1 rfl) ?_
      refine lv_if_ge (tgt := 55) hx hb dX8_oneOf_18 (by decide) (fun c0 => absurd c0 (by decide)) (fun _ => ?_)
      refine lv_aload_n hx hb dX8_oneOf_21 rfl (lv_at hl 2 rfl) ?_
      refine va_get (D := (dC, dI)) (ci := 6) (v := .int i_at) (C := RX8) (T := TX8) (N := 33) hx hb hts iX8 hown hK hP 0 rfl rfl 8 (by decide) (hts (.fieldLink RX8 82 "NeighboursMarkModel" "at" "I") (vm_at 2 rfl)) (fun _ h9 => h9) rfl dX8_oneOf_22 ?_
      refine lv_aload_n hx hb dX8_oneOf_25 rfl (lv_at hl 2 rfl) ?_
      refine va_get (D := (dC, dI)) (ci := 6) (v := .int i_taped) (C := RX8) (T := TX8) (N := 33) hx hb hts iX8 hown hK hP 0 rfl rfl 7 (by decide) (hts (.fieldLink RX8 75 "NeighboursMarkModel" "taped" "I") (vm_at 3 rfl)) (fun _ h9 => h9) rfl dX8_oneOf_26 ?_
      refine lv_icmp_ge (tgt := 49) hx hb dX8_oneOf_29 (by decide) (fun c10 => ?_) (fun c10 => by exfalso; have h9 : i_at.toInt < i_taped.toInt := vy_nle c10; omega)
      have c10 : i_at.toInt ≥ i_taped.toInt := vy_le c10
      refine lv_iinc (v := 5) (lv' := [(3, .int 5), (2, .int (-1)), (0, .ref h0), (1, .ref r_kinds)]) hx hb dX8_oneOf_49 hl (k := 0) rfl (by decide) (by decide) rfl (fun ls hl => ?_)
      refine lv_goto (tgt := 4) hx hb dX8_oneOf_52 (by decide) ?_
      refine lv_iload_n hx hb dX8_oneOf_4 rfl (lv_at hl 0 rfl) ?_
      refine lv_aload_n hx hb dX8_oneOf_5 rfl (lv_at hl 3 rfl) ?_
      refine va_alen hx hb hK hP 2 1 rfl rfl (v := 6) rfl dX8_oneOf_6 ?_
      refine lv_icmp_ge (tgt := 55) hx hb dX8_oneOf_7 (by decide) (fun c0 => absurd c0 (by decide)) (fun _ => ?_)
      refine lv_aload_n hx hb dX8_oneOf_10 rfl (lv_at hl 2 rfl) ?_
      refine va_get (D := (dC, dI)) (ci := 6) (v := .int i_well) (C := RX8) (T := TX8) (N := 33) hx hb hts iX8 hown hK hP 0 rfl rfl 9 (by decide) (hts (.fieldLink RX8 79 "NeighboursMarkModel" "well" "Z") (vm_at 1 rfl)) (fun _ h9 => h9) rfl dX8_oneOf_11 ?_
      refine lv_if_eq (tgt := 55) hx hb dX8_oneOf_14 (by decide) (fun c11 => by exfalso; have h9 : i_well.toInt = 0 := vy_eq c11; omega) (fun c11 => ?_)
      have c11 : i_well.toInt ≠ 0 := vy_ne c11
      refine lv_iload_n hx hb dX8_oneOf_17 rfl (lv_at hl 1 rfl) ?_
      refine lv_if_ge (tgt := 55) hx hb dX8_oneOf_18 (by decide) (fun c0 => absurd c0 (by decide)) (fun _ => ?_)
      refine lv_aload_n hx hb dX8_oneOf_21 rfl (lv_at hl 2 rfl) ?_
      refine va_get (D := (dC, dI)) (ci := 6) (v := .int i_at) (C := RX8) (T := TX8) (N := 33) hx hb hts iX8 hown hK hP 0 rfl rfl 8 (by decide) (hts (.fieldLink RX8 82 "NeighboursMarkModel" "at" "I") (vm_at 2 rfl)) (fun _ h9 => h9) rfl dX8_oneOf_22 ?_
      refine lv_aload_n hx hb dX8_oneOf_25 rfl (lv_at hl 2 rfl) ?_
      refine va_get (D := (dC, dI)) (ci := 6) (v := .int i_taped) (C := RX8) (T := TX8) (N := 33) hx hb hts iX8 hown hK hP 0 rfl rfl 7 (by decide) (hts (.fieldLink RX8 75 "NeighboursMarkModel" "taped" "I") (vm_at 3 rfl)) (fun _ h9 => h9) rfl dX8_oneOf_26 ?_
      refine lv_icmp_ge (tgt := 49) hx hb dX8_oneOf_29 (by decide) (fun c12 => ?_) (fun c12 => by exfalso; have h9 : i_at.toInt < i_taped.toInt := vy_nle c12; omega)
      have c12 : i_at.toInt ≥ i_taped.toInt := vy_le c12
      refine lv_iinc (v := 6) (lv' := [(3, .int 6), (2, .int (-1)), (0, .ref h0), (1, .ref r_kinds)]) hx hb dX8_oneOf_49 hl (k := 0) rfl (by decide) (by decide) rfl (fun ls hl => ?_)
      refine lv_goto (tgt := 4) hx hb dX8_oneOf_52 (by decide) ?_
      refine lv_iload_n hx hb dX8_oneOf_4 rfl (lv_at hl 0 rfl) ?_
      refine lv_aload_n hx hb dX8_oneOf_5 rfl (lv_at hl 3 rfl) ?_
      refine va_alen hx hb hK hP 2 1 rfl rfl (v := 6) rfl dX8_oneOf_6 ?_
      refine lv_icmp_ge (tgt := 55) hx hb dX8_oneOf_7 (by decide) (fun _ => ?_) (fun c0 => absurd (by decide) c0)
      refine lv_iload_n hx hb dX8_oneOf_55 rfl (lv_at hl 1 rfl) ?_
      refine lv_if_ge (tgt := 66) hx hb dX8_oneOf_56 (by decide) (fun c0 => absurd c0 (by decide)) (fun _ => ?_)
      refine lv_aload_n hx hb dX8_oneOf_59 rfl (lv_at hl 2 rfl) ?_
      refine lv_iconst (v := 0) hx hb dX8_oneOf_60 (by decide) ?_
      refine va_put (D := (dC, dI)) (ci := 6) (v := .int 0) (ty := .boolean) (C := RX8) (T := TX8) (N := 33) hx hb hts iX8 tyX8 tyX8_ok nmX8 hown hK hP hD hS 0 rfl rfl 9 (by decide) (hts (.fieldLink RX8 79 "NeighboursMarkModel" "well" "Z") (vm_at 1 rfl)) (fun _ h9 => h9) rfl (tyX8_ok 9 (by decide)) rfl rfl (Nat.le_of_ble_eq_true rfl) dX8_oneOf_61 (fun H locs hP hD hS => ?_)
      have hP : va_P (dC, dI) vwCl [(h0, .inr (6, [.ref r_refused, .ref r_now, .ref r_then, .ref r_before, .ref r_asIs, .int i_kept, .ref r_tape, .int i_taped, .int i_at, .int 0, .ref r_begins, .ref r_kinds, .int i_sort, .ref r_field, .ref r_willTeach, .ref r_isBack, .ref r_told, .ref r_bestSeats, .ref r_firstSeats, .int i_bestPass, .int i_bestAll, .int i_leastAll, .int i_fits, .int i_mayBeForged, .int i_restMany, .int i_restAll, .int i_restMost, .int i_mostAll, .ref r_restLearn, .ref r_marksNow, .ref r_row, .int i_rows, .int i_seed])), (r_tape, .inl (cI, 64, .inl tf)), (r_kinds, .inl (cC, 6, .inl kd))] H := hP
      have hD : va_D A [(h0, .inr (6, [.ref r_refused, .ref r_now, .ref r_then, .ref r_before, .ref r_asIs, .int i_kept, .ref r_tape, .int i_taped, .int i_at, .int 0, .ref r_begins, .ref r_kinds, .int i_sort, .ref r_field, .ref r_willTeach, .ref r_isBack, .ref r_told, .ref r_bestSeats, .ref r_firstSeats, .int i_bestPass, .int i_bestAll, .int i_leastAll, .int i_fits, .int i_mayBeForged, .int i_restMany, .int i_restAll, .int i_restMost, .int i_mostAll, .ref r_restLearn, .ref r_marksNow, .ref r_row, .int i_rows, .int i_seed])), (r_tape, .inl (cI, 64, .inl tf)), (r_kinds, .inl (cC, 6, .inl kd))] := hD
      refine lv_iconst (v := 0) hx hb dX8_oneOf_64 (by decide) ?_
      exact vx_iret (u := ((fun k => ([i_at, 0] : List Int32).getD k 0), (fun k => ([] : List (Nat → Int32)).getD k (fun _ => 0)))) hx hb hr hlocks hK hP hD hS [0, 1, 2] rfl (by decide) ⟨(by decide), (show 0 ≤ i_at.toInt ∧ i_at.toInt ≤ 64 from ⟨by omega, by omega⟩), (show 0 ≤ (0 : Int32).toInt ∧ (0 : Int32).toInt ≤ 1 by decide), (show OneK tf i_taped.toInt i_well.toInt i_at.toInt 0 i_at.toInt 0 from (by unfold OneK; omega)), trivial⟩ dX8_oneOf_65
    · have c2 : i_at.toInt < i_taped.toInt := vy_nle c2
      refine lv_aload_n hx hb dX8_oneOf_32 rfl (lv_at hl 2 rfl) ?_
      refine va_get (D := (dC, dI)) (ci := 6) (v := .ref r_tape) (C := RX8) (T := TX8) (N := 33) hx hb hts iX8 hown hK hP 0 rfl rfl 6 (by decide) (hts (.fieldLink RX8 25 "NeighboursMarkModel" "tape" "[I") (vm_at 4 rfl)) (fun _ h9 => h9) rfl dX8_oneOf_33 ?_
      refine lv_aload_n hx hb dX8_oneOf_36 rfl (lv_at hl 2 rfl) ?_
      refine va_get (D := (dC, dI)) (ci := 6) (v := .int i_at) (C := RX8) (T := TX8) (N := 33) hx hb hts iX8 hown hK hP 0 rfl rfl 8 (by decide) (hts (.fieldLink RX8 82 "NeighboursMarkModel" "at" "I") (vm_at 2 rfl)) (fun _ h9 => h9) rfl dX8_oneOf_37 ?_
      refine va_iald hx hb hK hP 1 0 rfl rfl (vp_in_iff.mpr ⟨by omega, by omega⟩) dX8_oneOf_40 ?_
      refine lv_topi (fun x13 ex13 => ?_)
      have fx13 : x13.toInt = (tf i_at.toInt.toNat).toInt := by rw [ex13]; show (tf i_at.toInt.toNat).toInt = _; rfl
      refine lv_aload_n hx hb dX8_oneOf_41 rfl (lv_at hl 3 rfl) ?_
      refine lv_iload_n hx hb dX8_oneOf_42 rfl (lv_at hl 0 rfl) ?_
      refine va_cald hx hb hK hP 2 1 rfl rfl (by unfold vp_in; decide) dX8_oneOf_43 ?_
      refine lv_topi (fun x14 ex14 => ?_)
      have ex14 : 115 = x14 := (ex14.trans kd_0).symm
      subst ex14
      refine lv_icmp_ne (tgt := 49) hx hb dX8_oneOf_44 (by decide) (fun c15 => ?_) (fun c15 => ?_)
      · have c15 : x13.toInt ≠ 115 := vy_ne c15
        refine lv_iinc (v := 1) (lv' := [(3, .int 1), (2, .int (-1)), (0, .ref h0), (1, .ref r_kinds)]) hx hb dX8_oneOf_49 hl (k := 0) rfl (by decide) (by decide) rfl (fun ls hl => ?_)
        refine lv_goto (tgt := 4) hx hb dX8_oneOf_52 (by decide) ?_
        refine lv_iload_n hx hb dX8_oneOf_4 rfl (lv_at hl 0 rfl) ?_
        refine lv_aload_n hx hb dX8_oneOf_5 rfl (lv_at hl 3 rfl) ?_
        refine va_alen hx hb hK hP 2 1 rfl rfl (v := 6) rfl dX8_oneOf_6 ?_
        refine lv_icmp_ge (tgt := 55) hx hb dX8_oneOf_7 (by decide) (fun c0 => absurd c0 (by decide)) (fun _ => ?_)
        refine lv_aload_n hx hb dX8_oneOf_10 rfl (lv_at hl 2 rfl) ?_
        refine va_get (D := (dC, dI)) (ci := 6) (v := .int i_well) (C := RX8) (T := TX8) (N := 33) hx hb hts iX8 hown hK hP 0 rfl rfl 9 (by decide) (hts (.fieldLink RX8 79 "NeighboursMarkModel" "well" "Z") (vm_at 1 rfl)) (fun _ h9 => h9) rfl dX8_oneOf_11 ?_
        refine lv_if_eq (tgt := 55) hx hb dX8_oneOf_14 (by decide) (fun c16 => by exfalso; have h9 : i_well.toInt = 0 := vy_eq c16; omega) (fun c16 => ?_)
        have c16 : i_well.toInt ≠ 0 := vy_ne c16
        refine lv_iload_n hx hb dX8_oneOf_17 rfl (lv_at hl 1 rfl) ?_
        refine lv_if_ge (tgt := 55) hx hb dX8_oneOf_18 (by decide) (fun c0 => absurd c0 (by decide)) (fun _ => ?_)
        refine lv_aload_n hx hb dX8_oneOf_21 rfl (lv_at hl 2 rfl) ?_
        refine va_get (D := (dC, dI)) (ci := 6) (v := .int i_at) (C := RX8) (T := TX8) (N := 33) hx hb hts iX8 hown hK hP 0 rfl rfl 8 (by decide) (hts (.fieldLink RX8 82 "NeighboursMarkModel" "at" "I") (vm_at 2 rfl)) (fun _ h9 => h9) rfl dX8_oneOf_22 ?_
        refine lv_aload_n hx hb dX8_oneOf_25 rfl (lv_at hl 2 rfl) ?_
        refine va_get (D := (dC, dI)) (ci := 6) (v := .int i_taped) (C := RX8) (T := TX8) (N := 33) hx hb hts iX8 hown hK hP 0 rfl rfl 7 (by decide) (hts (.fieldLink RX8 75 "NeighboursMarkModel" "taped" "I") (vm_at 3 rfl)) (fun _ h9 => h9) rfl dX8_oneOf_26 ?_
        refine lv_icmp_ge (tgt := 49) hx hb dX8_oneOf_29 (by decide) (fun c17 => by exfalso; have h9 : i_at.toInt ≥ i_taped.toInt := vy_le c17; omega) (fun c17 => ?_)
        have c17 : i_at.toInt < i_taped.toInt := vy_nle c17
        refine lv_aload_n hx hb dX8_oneOf_32 rfl (lv_at hl 2 rfl) ?_
        refine va_get (D := (dC, dI)) (ci := 6) (v := .ref r_tape) (C := RX8) (T := TX8) (N := 33) hx hb hts iX8 hown hK hP 0 rfl rfl 6 (by decide) (hts (.fieldLink RX8 25 "NeighboursMarkModel" "tape" "[I") (vm_at 4 rfl)) (fun _ h9 => h9) rfl dX8_oneOf_33 ?_
        refine lv_aload_n hx hb dX8_oneOf_36 rfl (lv_at hl 2 rfl) ?_
        refine va_get (D := (dC, dI)) (ci := 6) (v := .int i_at) (C := RX8) (T := TX8) (N := 33) hx hb hts iX8 hown hK hP 0 rfl rfl 8 (by decide) (hts (.fieldLink RX8 82 "NeighboursMarkModel" "at" "I") (vm_at 2 rfl)) (fun _ h9 => h9) rfl dX8_oneOf_37 ?_
        refine va_iald hx hb hK hP 1 0 rfl rfl (vp_in_iff.mpr ⟨by omega, by omega⟩) dX8_oneOf_40 ?_
        refine lv_topi (fun x18 ex18 => ?_)
        have ex18 : x13 = x18 := (ex18.trans ex13.symm).symm
        subst ex18
        refine lv_aload_n hx hb dX8_oneOf_41 rfl (lv_at hl 3 rfl) ?_
        refine lv_iload_n hx hb dX8_oneOf_42 rfl (lv_at hl 0 rfl) ?_
        refine va_cald hx hb hK hP 2 1 rfl rfl (by unfold vp_in; decide) dX8_oneOf_43 ?_
        refine lv_topi (fun x19 ex19 => ?_)
        have ex19 : 108 = x19 := (ex19.trans kd_1).symm
        subst ex19
        refine lv_icmp_ne (tgt := 49) hx hb dX8_oneOf_44 (by decide) (fun c20 => ?_) (fun c20 => ?_)
        · have c20 : x13.toInt ≠ 108 := vy_ne c20
          refine lv_iinc (v := 2) (lv' := [(3, .int 2), (2, .int (-1)), (0, .ref h0), (1, .ref r_kinds)]) hx hb dX8_oneOf_49 hl (k := 0) rfl (by decide) (by decide) rfl (fun ls hl => ?_)
          refine lv_goto (tgt := 4) hx hb dX8_oneOf_52 (by decide) ?_
          refine lv_iload_n hx hb dX8_oneOf_4 rfl (lv_at hl 0 rfl) ?_
          refine lv_aload_n hx hb dX8_oneOf_5 rfl (lv_at hl 3 rfl) ?_
          refine va_alen hx hb hK hP 2 1 rfl rfl (v := 6) rfl dX8_oneOf_6 ?_
          refine lv_icmp_ge (tgt := 55) hx hb dX8_oneOf_7 (by decide) (fun c0 => absurd c0 (by decide)) (fun _ => ?_)
          refine lv_aload_n hx hb dX8_oneOf_10 rfl (lv_at hl 2 rfl) ?_
          refine va_get (D := (dC, dI)) (ci := 6) (v := .int i_well) (C := RX8) (T := TX8) (N := 33) hx hb hts iX8 hown hK hP 0 rfl rfl 9 (by decide) (hts (.fieldLink RX8 79 "NeighboursMarkModel" "well" "Z") (vm_at 1 rfl)) (fun _ h9 => h9) rfl dX8_oneOf_11 ?_
          refine lv_if_eq (tgt := 55) hx hb dX8_oneOf_14 (by decide) (fun c21 => by exfalso; have h9 : i_well.toInt = 0 := vy_eq c21; omega) (fun c21 => ?_)
          have c21 : i_well.toInt ≠ 0 := vy_ne c21
          refine lv_iload_n hx hb dX8_oneOf_17 rfl (lv_at hl 1 rfl) ?_
          refine lv_if_ge (tgt := 55) hx hb dX8_oneOf_18 (by decide) (fun c0 => absurd c0 (by decide)) (fun _ => ?_)
          refine lv_aload_n hx hb dX8_oneOf_21 rfl (lv_at hl 2 rfl) ?_
          refine va_get (D := (dC, dI)) (ci := 6) (v := .int i_at) (C := RX8) (T := TX8) (N := 33) hx hb hts iX8 hown hK hP 0 rfl rfl 8 (by decide) (hts (.fieldLink RX8 82 "NeighboursMarkModel" "at" "I") (vm_at 2 rfl)) (fun _ h9 => h9) rfl dX8_oneOf_22 ?_
          refine lv_aload_n hx hb dX8_oneOf_25 rfl (lv_at hl 2 rfl) ?_
          refine va_get (D := (dC, dI)) (ci := 6) (v := .int i_taped) (C := RX8) (T := TX8) (N := 33) hx hb hts iX8 hown hK hP 0 rfl rfl 7 (by decide) (hts (.fieldLink RX8 75 "NeighboursMarkModel" "taped" "I") (vm_at 3 rfl)) (fun _ h9 => h9) rfl dX8_oneOf_26 ?_
          refine lv_icmp_ge (tgt := 49) hx hb dX8_oneOf_29 (by decide) (fun c22 => by exfalso; have h9 : i_at.toInt ≥ i_taped.toInt := vy_le c22; omega) (fun c22 => ?_)
          have c22 : i_at.toInt < i_taped.toInt := vy_nle c22
          refine lv_aload_n hx hb dX8_oneOf_32 rfl (lv_at hl 2 rfl) ?_
          refine va_get (D := (dC, dI)) (ci := 6) (v := .ref r_tape) (C := RX8) (T := TX8) (N := 33) hx hb hts iX8 hown hK hP 0 rfl rfl 6 (by decide) (hts (.fieldLink RX8 25 "NeighboursMarkModel" "tape" "[I") (vm_at 4 rfl)) (fun _ h9 => h9) rfl dX8_oneOf_33 ?_
          refine lv_aload_n hx hb dX8_oneOf_36 rfl (lv_at hl 2 rfl) ?_
          refine va_get (D := (dC, dI)) (ci := 6) (v := .int i_at) (C := RX8) (T := TX8) (N := 33) hx hb hts iX8 hown hK hP 0 rfl rfl 8 (by decide) (hts (.fieldLink RX8 82 "NeighboursMarkModel" "at" "I") (vm_at 2 rfl)) (fun _ h9 => h9) rfl dX8_oneOf_37 ?_
          refine va_iald hx hb hK hP 1 0 rfl rfl (vp_in_iff.mpr ⟨by omega, by omega⟩) dX8_oneOf_40 ?_
          refine lv_topi (fun x23 ex23 => ?_)
          have ex23 : x13 = x23 := (ex23.trans ex13.symm).symm
          subst ex23
          refine lv_aload_n hx hb dX8_oneOf_41 rfl (lv_at hl 3 rfl) ?_
          refine lv_iload_n hx hb dX8_oneOf_42 rfl (lv_at hl 0 rfl) ?_
          refine va_cald hx hb hK hP 2 1 rfl rfl (by unfold vp_in; decide) dX8_oneOf_43 ?_
          refine lv_topi (fun x24 ex24 => ?_)
          have ex24 : 104 = x24 := (ex24.trans kd_2).symm
          subst ex24
          refine lv_icmp_ne (tgt := 49) hx hb dX8_oneOf_44 (by decide) (fun c25 => ?_) (fun c25 => ?_)
          · have c25 : x13.toInt ≠ 104 := vy_ne c25
            refine lv_iinc (v := 3) (lv' := [(3, .int 3), (2, .int (-1)), (0, .ref h0), (1, .ref r_kinds)]) hx hb dX8_oneOf_49 hl (k := 0) rfl (by decide) (by decide) rfl (fun ls hl => ?_)
            refine lv_goto (tgt := 4) hx hb dX8_oneOf_52 (by decide) ?_
            refine lv_iload_n hx hb dX8_oneOf_4 rfl (lv_at hl 0 rfl) ?_
            refine lv_aload_n hx hb dX8_oneOf_5 rfl (lv_at hl 3 rfl) ?_
            refine va_alen hx hb hK hP 2 1 rfl rfl (v := 6) rfl dX8_oneOf_6 ?_
            refine lv_icmp_ge (tgt := 55) hx hb dX8_oneOf_7 (by decide) (fun c0 => absurd c0 (by decide)) (fun _ => ?_)
            refine lv_aload_n hx hb dX8_oneOf_10 rfl (lv_at hl 2 rfl) ?_
            refine va_get (D := (dC, dI)) (ci := 6) (v := .int i_well) (C := RX8) (T := TX8) (N := 33) hx hb hts iX8 hown hK hP 0 rfl rfl 9 (by decide) (hts (.fieldLink RX8 79 "NeighboursMarkModel" "well" "Z") (vm_at 1 rfl)) (fun _ h9 => h9) rfl dX8_oneOf_11 ?_
            refine lv_if_eq (tgt := 55) hx hb dX8_oneOf_14 (by decide) (fun c26 => by exfalso; have h9 : i_well.toInt = 0 := vy_eq c26; omega) (fun c26 => ?_)
            have c26 : i_well.toInt ≠ 0 := vy_ne c26
            refine lv_iload_n hx hb dX8_oneOf_17 rfl (lv_at hl 1 rfl) ?_
            refine lv_if_ge (tgt := 55) hx hb dX8_oneOf_18 (by decide) (fun c0 => absurd c0 (by decide)) (fun _ => ?_)
            refine lv_aload_n hx hb dX8_oneOf_21 rfl (lv_at hl 2 rfl) ?_
            refine va_get (D := (dC, dI)) (ci := 6) (v := .int i_at) (C := RX8) (T := TX8) (N := 33) hx hb hts iX8 hown hK hP 0 rfl rfl 8 (by decide) (hts (.fieldLink RX8 82 "NeighboursMarkModel" "at" "I") (vm_at 2 rfl)) (fun _ h9 => h9) rfl dX8_oneOf_22 ?_
            refine lv_aload_n hx hb dX8_oneOf_25 rfl (lv_at hl 2 rfl) ?_
            refine va_get (D := (dC, dI)) (ci := 6) (v := .int i_taped) (C := RX8) (T := TX8) (N := 33) hx hb hts iX8 hown hK hP 0 rfl rfl 7 (by decide) (hts (.fieldLink RX8 75 "NeighboursMarkModel" "taped" "I") (vm_at 3 rfl)) (fun _ h9 => h9) rfl dX8_oneOf_26 ?_
            refine lv_icmp_ge (tgt := 49) hx hb dX8_oneOf_29 (by decide) (fun c27 => by exfalso; have h9 : i_at.toInt ≥ i_taped.toInt := vy_le c27; omega) (fun c27 => ?_)
            have c27 : i_at.toInt < i_taped.toInt := vy_nle c27
            refine lv_aload_n hx hb dX8_oneOf_32 rfl (lv_at hl 2 rfl) ?_
            refine va_get (D := (dC, dI)) (ci := 6) (v := .ref r_tape) (C := RX8) (T := TX8) (N := 33) hx hb hts iX8 hown hK hP 0 rfl rfl 6 (by decide) (hts (.fieldLink RX8 25 "NeighboursMarkModel" "tape" "[I") (vm_at 4 rfl)) (fun _ h9 => h9) rfl dX8_oneOf_33 ?_
            refine lv_aload_n hx hb dX8_oneOf_36 rfl (lv_at hl 2 rfl) ?_
            refine va_get (D := (dC, dI)) (ci := 6) (v := .int i_at) (C := RX8) (T := TX8) (N := 33) hx hb hts iX8 hown hK hP 0 rfl rfl 8 (by decide) (hts (.fieldLink RX8 82 "NeighboursMarkModel" "at" "I") (vm_at 2 rfl)) (fun _ h9 => h9) rfl dX8_oneOf_37 ?_
            refine va_iald hx hb hK hP 1 0 rfl rfl (vp_in_iff.mpr ⟨by omega, by omega⟩) dX8_oneOf_40 ?_
            refine lv_topi (fun x28 ex28 => ?_)
            have ex28 : x13 = x28 := (ex28.trans ex13.symm).symm
            subst ex28
            refine lv_aload_n hx hb dX8_oneOf_41 rfl (lv_at hl 3 rfl) ?_
            refine lv_iload_n hx hb dX8_oneOf_42 rfl (lv_at hl 0 rfl) ?_
            refine va_cald hx hb hK hP 2 1 rfl rfl (by unfold vp_in; decide) dX8_oneOf_43 ?_
            refine lv_topi (fun x29 ex29 => ?_)
            have ex29 : 116 = x29 := (ex29.trans kd_3).symm
            subst ex29
            refine lv_icmp_ne (tgt := 49) hx hb dX8_oneOf_44 (by decide) (fun c30 => ?_) (fun c30 => ?_)
            · have c30 : x13.toInt ≠ 116 := vy_ne c30
              refine lv_iinc (v := 4) (lv' := [(3, .int 4), (2, .int (-1)), (0, .ref h0), (1, .ref r_kinds)]) hx hb dX8_oneOf_49 hl (k := 0) rfl (by decide) (by decide) rfl (fun ls hl => ?_)
              refine lv_goto (tgt := 4) hx hb dX8_oneOf_52 (by decide) ?_
              refine lv_iload_n hx hb dX8_oneOf_4 rfl (lv_at hl 0 rfl) ?_
              refine lv_aload_n hx hb dX8_oneOf_5 rfl (lv_at hl 3 rfl) ?_
              refine va_alen hx hb hK hP 2 1 rfl rfl (v := 6) rfl dX8_oneOf_6 ?_
              refine lv_icmp_ge (tgt := 55) hx hb dX8_oneOf_7 (by decide) (fun c0 => absurd c0 (by decide)) (fun _ => ?_)
              refine lv_aload_n hx hb dX8_oneOf_10 rfl (lv_at hl 2 rfl) ?_
              refine va_get (D := (dC, dI)) (ci := 6) (v := .int i_well) (C := RX8) (T := TX8) (N := 33) hx hb hts iX8 hown hK hP 0 rfl rfl 9 (by decide) (hts (.fieldLink RX8 79 "NeighboursMarkModel" "well" "Z") (vm_at 1 rfl)) (fun _ h9 => h9) rfl dX8_oneOf_11 ?_
              refine lv_if_eq (tgt := 55) hx hb dX8_oneOf_14 (by decide) (fun c31 => by exfalso; have h9 : i_well.toInt = 0 := vy_eq c31; omega) (fun c31 => ?_)
              have c31 : i_well.toInt ≠ 0 := vy_ne c31
              refine lv_iload_n hx hb dX8_oneOf_17 rfl (lv_at hl 1 rfl) ?_
              refine lv_if_ge (tgt := 55) hx hb dX8_oneOf_18 (by decide) (fun c0 => absurd c0 (by decide)) (fun _ => ?_)
              refine lv_aload_n hx hb dX8_oneOf_21 rfl (lv_at hl 2 rfl) ?_
              refine va_get (D := (dC, dI)) (ci := 6) (v := .int i_at) (C := RX8) (T := TX8) (N := 33) hx hb hts iX8 hown hK hP 0 rfl rfl 8 (by decide) (hts (.fieldLink RX8 82 "NeighboursMarkModel" "at" "I") (vm_at 2 rfl)) (fun _ h9 => h9) rfl dX8_oneOf_22 ?_
              refine lv_aload_n hx hb dX8_oneOf_25 rfl (lv_at hl 2 rfl) ?_
              refine va_get (D := (dC, dI)) (ci := 6) (v := .int i_taped) (C := RX8) (T := TX8) (N := 33) hx hb hts iX8 hown hK hP 0 rfl rfl 7 (by decide) (hts (.fieldLink RX8 75 "NeighboursMarkModel" "taped" "I") (vm_at 3 rfl)) (fun _ h9 => h9) rfl dX8_oneOf_26 ?_
              refine lv_icmp_ge (tgt := 49) hx hb dX8_oneOf_29 (by decide) (fun c32 => by exfalso; have h9 : i_at.toInt ≥ i_taped.toInt := vy_le c32; omega) (fun c32 => ?_)
              have c32 : i_at.toInt < i_taped.toInt := vy_nle c32
              refine lv_aload_n hx hb dX8_oneOf_32 rfl (lv_at hl 2 rfl) ?_
              refine va_get (D := (dC, dI)) (ci := 6) (v := .ref r_tape) (C := RX8) (T := TX8) (N := 33) hx hb hts iX8 hown hK hP 0 rfl rfl 6 (by decide) (hts (.fieldLink RX8 25 "NeighboursMarkModel" "tape" "[I") (vm_at 4 rfl)) (fun _ h9 => h9) rfl dX8_oneOf_33 ?_
              refine lv_aload_n hx hb dX8_oneOf_36 rfl (lv_at hl 2 rfl) ?_
              refine va_get (D := (dC, dI)) (ci := 6) (v := .int i_at) (C := RX8) (T := TX8) (N := 33) hx hb hts iX8 hown hK hP 0 rfl rfl 8 (by decide) (hts (.fieldLink RX8 82 "NeighboursMarkModel" "at" "I") (vm_at 2 rfl)) (fun _ h9 => h9) rfl dX8_oneOf_37 ?_
              refine va_iald hx hb hK hP 1 0 rfl rfl (vp_in_iff.mpr ⟨by omega, by omega⟩) dX8_oneOf_40 ?_
              refine lv_topi (fun x33 ex33 => ?_)
              have ex33 : x13 = x33 := (ex33.trans ex13.symm).symm
              subst ex33
              refine lv_aload_n hx hb dX8_oneOf_41 rfl (lv_at hl 3 rfl) ?_
              refine lv_iload_n hx hb dX8_oneOf_42 rfl (lv_at hl 0 rfl) ?_
              refine va_cald hx hb hK hP 2 1 rfl rfl (by unfold vp_in; decide) dX8_oneOf_43 ?_
              refine lv_topi (fun x34 ex34 => ?_)
              have ex34 : 98 = x34 := (ex34.trans kd_4).symm
              subst ex34
              refine lv_icmp_ne (tgt := 49) hx hb dX8_oneOf_44 (by decide) (fun c35 => ?_) (fun c35 => ?_)
              · have c35 : x13.toInt ≠ 98 := vy_ne c35
                refine lv_iinc (v := 5) (lv' := [(3, .int 5), (2, .int (-1)), (0, .ref h0), (1, .ref r_kinds)]) hx hb dX8_oneOf_49 hl (k := 0) rfl (by decide) (by decide) rfl (fun ls hl => ?_)
                refine lv_goto (tgt := 4) hx hb dX8_oneOf_52 (by decide) ?_
                refine lv_iload_n hx hb dX8_oneOf_4 rfl (lv_at hl 0 rfl) ?_
                refine lv_aload_n hx hb dX8_oneOf_5 rfl (lv_at hl 3 rfl) ?_
                refine va_alen hx hb hK hP 2 1 rfl rfl (v := 6) rfl dX8_oneOf_6 ?_
                refine lv_icmp_ge (tgt := 55) hx hb dX8_oneOf_7 (by decide) (fun c0 => absurd c0 (by decide)) (fun _ => ?_)
                refine lv_aload_n hx hb dX8_oneOf_10 rfl (lv_at hl 2 rfl) ?_
                refine va_get (D := (dC, dI)) (ci := 6) (v := .int i_well) (C := RX8) (T := TX8) (N := 33) hx hb hts iX8 hown hK hP 0 rfl rfl 9 (by decide) (hts (.fieldLink RX8 79 "NeighboursMarkModel" "well" "Z") (vm_at 1 rfl)) (fun _ h9 => h9) rfl dX8_oneOf_11 ?_
                refine lv_if_eq (tgt := 55) hx hb dX8_oneOf_14 (by decide) (fun c36 => by exfalso; have h9 : i_well.toInt = 0 := vy_eq c36; omega) (fun c36 => ?_)
                have c36 : i_well.toInt ≠ 0 := vy_ne c36
                refine lv_iload_n hx hb dX8_oneOf_17 rfl (lv_at hl 1 rfl) ?_
                refine lv_if_ge (tgt := 55) hx hb dX8_oneOf_18 (by decide) (fun c0 => absurd c0 (by decide)) (fun _ => ?_)
                refine lv_aload_n hx hb dX8_oneOf_21 rfl (lv_at hl 2 rfl) ?_
                refine va_get (D := (dC, dI)) (ci := 6) (v := .int i_at) (C := RX8) (T := TX8) (N := 33) hx hb hts iX8 hown hK hP 0 rfl rfl 8 (by decide) (hts (.fieldLink RX8 82 "NeighboursMarkModel" "at" "I") (vm_at 2 rfl)) (fun _ h9 => h9) rfl dX8_oneOf_22 ?_
                refine lv_aload_n hx hb dX8_oneOf_25 rfl (lv_at hl 2 rfl) ?_
                refine va_get (D := (dC, dI)) (ci := 6) (v := .int i_taped) (C := RX8) (T := TX8) (N := 33) hx hb hts iX8 hown hK hP 0 rfl rfl 7 (by decide) (hts (.fieldLink RX8 75 "NeighboursMarkModel" "taped" "I") (vm_at 3 rfl)) (fun _ h9 => h9) rfl dX8_oneOf_26 ?_
                refine lv_icmp_ge (tgt := 49) hx hb dX8_oneOf_29 (by decide) (fun c37 => by exfalso; have h9 : i_at.toInt ≥ i_taped.toInt := vy_le c37; omega) (fun c37 => ?_)
                have c37 : i_at.toInt < i_taped.toInt := vy_nle c37
                refine lv_aload_n hx hb dX8_oneOf_32 rfl (lv_at hl 2 rfl) ?_
                refine va_get (D := (dC, dI)) (ci := 6) (v := .ref r_tape) (C := RX8) (T := TX8) (N := 33) hx hb hts iX8 hown hK hP 0 rfl rfl 6 (by decide) (hts (.fieldLink RX8 25 "NeighboursMarkModel" "tape" "[I") (vm_at 4 rfl)) (fun _ h9 => h9) rfl dX8_oneOf_33 ?_
                refine lv_aload_n hx hb dX8_oneOf_36 rfl (lv_at hl 2 rfl) ?_
                refine va_get (D := (dC, dI)) (ci := 6) (v := .int i_at) (C := RX8) (T := TX8) (N := 33) hx hb hts iX8 hown hK hP 0 rfl rfl 8 (by decide) (hts (.fieldLink RX8 82 "NeighboursMarkModel" "at" "I") (vm_at 2 rfl)) (fun _ h9 => h9) rfl dX8_oneOf_37 ?_
                refine va_iald hx hb hK hP 1 0 rfl rfl (vp_in_iff.mpr ⟨by omega, by omega⟩) dX8_oneOf_40 ?_
                refine lv_topi (fun x38 ex38 => ?_)
                have ex38 : x13 = x38 := (ex38.trans ex13.symm).symm
                subst ex38
                refine lv_aload_n hx hb dX8_oneOf_41 rfl (lv_at hl 3 rfl) ?_
                refine lv_iload_n hx hb dX8_oneOf_42 rfl (lv_at hl 0 rfl) ?_
                refine va_cald hx hb hK hP 2 1 rfl rfl (by unfold vp_in; decide) dX8_oneOf_43 ?_
                refine lv_topi (fun x39 ex39 => ?_)
                have ex39 : 111 = x39 := (ex39.trans kd_5).symm
                subst ex39
                refine lv_icmp_ne (tgt := 49) hx hb dX8_oneOf_44 (by decide) (fun c40 => ?_) (fun c40 => ?_)
                · have c40 : x13.toInt ≠ 111 := vy_ne c40
                  refine lv_iinc (v := 6) (lv' := [(3, .int 6), (2, .int (-1)), (0, .ref h0), (1, .ref r_kinds)]) hx hb dX8_oneOf_49 hl (k := 0) rfl (by decide) (by decide) rfl (fun ls hl => ?_)
                  refine lv_goto (tgt := 4) hx hb dX8_oneOf_52 (by decide) ?_
                  refine lv_iload_n hx hb dX8_oneOf_4 rfl (lv_at hl 0 rfl) ?_
                  refine lv_aload_n hx hb dX8_oneOf_5 rfl (lv_at hl 3 rfl) ?_
                  refine va_alen hx hb hK hP 2 1 rfl rfl (v := 6) rfl dX8_oneOf_6 ?_
                  refine lv_icmp_ge (tgt := 55) hx hb dX8_oneOf_7 (by decide) (fun _ => ?_) (fun c0 => absurd (by decide) c0)
                  refine lv_iload_n hx hb dX8_oneOf_55 rfl (lv_at hl 1 rfl) ?_
                  refine lv_if_ge (tgt := 66) hx hb dX8_oneOf_56 (by decide) (fun c0 => absurd c0 (by decide)) (fun _ => ?_)
                  refine lv_aload_n hx hb dX8_oneOf_59 rfl (lv_at hl 2 rfl) ?_
                  refine lv_iconst (v := 0) hx hb dX8_oneOf_60 (by decide) ?_
                  refine va_put (D := (dC, dI)) (ci := 6) (v := .int 0) (ty := .boolean) (C := RX8) (T := TX8) (N := 33) hx hb hts iX8 tyX8 tyX8_ok nmX8 hown hK hP hD hS 0 rfl rfl 9 (by decide) (hts (.fieldLink RX8 79 "NeighboursMarkModel" "well" "Z") (vm_at 1 rfl)) (fun _ h9 => h9) rfl (tyX8_ok 9 (by decide)) rfl rfl (Nat.le_of_ble_eq_true rfl) dX8_oneOf_61 (fun H locs hP hD hS => ?_)
                  have hP : va_P (dC, dI) vwCl [(h0, .inr (6, [.ref r_refused, .ref r_now, .ref r_then, .ref r_before, .ref r_asIs, .int i_kept, .ref r_tape, .int i_taped, .int i_at, .int 0, .ref r_begins, .ref r_kinds, .int i_sort, .ref r_field, .ref r_willTeach, .ref r_isBack, .ref r_told, .ref r_bestSeats, .ref r_firstSeats, .int i_bestPass, .int i_bestAll, .int i_leastAll, .int i_fits, .int i_mayBeForged, .int i_restMany, .int i_restAll, .int i_restMost, .int i_mostAll, .ref r_restLearn, .ref r_marksNow, .ref r_row, .int i_rows, .int i_seed])), (r_tape, .inl (cI, 64, .inl tf)), (r_kinds, .inl (cC, 6, .inl kd))] H := hP
                  have hD : va_D A [(h0, .inr (6, [.ref r_refused, .ref r_now, .ref r_then, .ref r_before, .ref r_asIs, .int i_kept, .ref r_tape, .int i_taped, .int i_at, .int 0, .ref r_begins, .ref r_kinds, .int i_sort, .ref r_field, .ref r_willTeach, .ref r_isBack, .ref r_told, .ref r_bestSeats, .ref r_firstSeats, .int i_bestPass, .int i_bestAll, .int i_leastAll, .int i_fits, .int i_mayBeForged, .int i_restMany, .int i_restAll, .int i_restMost, .int i_mostAll, .ref r_restLearn, .ref r_marksNow, .ref r_row, .int i_rows, .int i_seed])), (r_tape, .inl (cI, 64, .inl tf)), (r_kinds, .inl (cC, 6, .inl kd))] := hD
                  refine lv_iconst (v := 0) hx hb dX8_oneOf_64 (by decide) ?_
                  exact vx_iret (u := ((fun k => ([i_at, 0] : List Int32).getD k 0), (fun k => ([] : List (Nat → Int32)).getD k (fun _ => 0)))) hx hb hr hlocks hK hP hD hS [0, 1, 2] rfl (by decide) ⟨(by decide), (show 0 ≤ i_at.toInt ∧ i_at.toInt ≤ 64 from ⟨by omega, by omega⟩), (show 0 ≤ (0 : Int32).toInt ∧ (0 : Int32).toInt ≤ 1 by decide), (show OneK tf i_taped.toInt i_well.toInt i_at.toInt 0 i_at.toInt 0 from (by unfold OneK; omega)), trivial⟩ dX8_oneOf_65
                · have c40 : x13.toInt = 111 := vy_eq c40
                  refine lv_iload_n hx hb dX8_oneOf_47 rfl (lv_at hl 0 rfl) ?_
                  refine lv_istore_n (lv' := [(2, .int 5), (3, .int 5), (0, .ref h0), (1, .ref r_kinds)]) hx hb dX8_oneOf_48 rfl hl (by decide) rfl (fun ls hl => ?_)
                  refine lv_iinc (v := 6) (lv' := [(3, .int 6), (2, .int 5), (0, .ref h0), (1, .ref r_kinds)]) hx hb dX8_oneOf_49 hl (k := 1) rfl (by decide) (by decide) rfl (fun ls hl => ?_)
                  refine lv_goto (tgt := 4) hx hb dX8_oneOf_52 (by decide) ?_
                  refine lv_iload_n hx hb dX8_oneOf_4 rfl (lv_at hl 0 rfl) ?_
                  refine lv_aload_n hx hb dX8_oneOf_5 rfl (lv_at hl 3 rfl) ?_
                  refine va_alen hx hb hK hP 2 1 rfl rfl (v := 6) rfl dX8_oneOf_6 ?_
                  refine lv_icmp_ge (tgt := 55) hx hb dX8_oneOf_7 (by decide) (fun _ => ?_) (fun c0 => absurd (by decide) c0)
                  refine lv_iload_n hx hb dX8_oneOf_55 rfl (lv_at hl 1 rfl) ?_
                  refine lv_if_ge (tgt := 66) hx hb dX8_oneOf_56 (by decide) (fun _ => ?_) (fun c0 => absurd (by decide) c0)
                  refine lv_aload_n hx hb dX8_oneOf_66 rfl (lv_at hl 2 rfl) ?_
                  refine lv_dup hx hb dX8_oneOf_67 rfl ?_
                  refine va_get (D := (dC, dI)) (ci := 6) (v := .int i_at) (C := RX8) (T := TX8) (N := 33) hx hb hts iX8 hown hK hP 0 rfl rfl 8 (by decide) (hts (.fieldLink RX8 82 "NeighboursMarkModel" "at" "I") (vm_at 2 rfl)) (fun _ h9 => h9) rfl dX8_oneOf_68 ?_
                  refine lv_iconst (v := 1) hx hb dX8_oneOf_71 (by decide) ?_
                  refine lv_iadd hx hb dX8_oneOf_72 ?_
                  have f41 := vy_add (x := i_at) (y := 1) rfl (show ((1 : Int32)).toInt = 1 by decide) (by omega) (by omega)
                  refine va_put (D := (dC, dI)) (ci := 6) (v := .int (i_at + 1)) (ty := .int) (C := RX8) (T := TX8) (N := 33) hx hb hts iX8 tyX8 tyX8_ok nmX8 hown hK hP hD hS 0 rfl rfl 8 (by decide) (hts (.fieldLink RX8 82 "NeighboursMarkModel" "at" "I") (vm_at 2 rfl)) (fun _ h9 => h9) rfl (tyX8_ok 8 (by decide)) rfl rfl (Nat.le_of_ble_eq_true rfl) dX8_oneOf_73 (fun H locs hP hD hS => ?_)
                  have hP : va_P (dC, dI) vwCl [(h0, .inr (6, [.ref r_refused, .ref r_now, .ref r_then, .ref r_before, .ref r_asIs, .int i_kept, .ref r_tape, .int i_taped, .int (i_at + 1), .int i_well, .ref r_begins, .ref r_kinds, .int i_sort, .ref r_field, .ref r_willTeach, .ref r_isBack, .ref r_told, .ref r_bestSeats, .ref r_firstSeats, .int i_bestPass, .int i_bestAll, .int i_leastAll, .int i_fits, .int i_mayBeForged, .int i_restMany, .int i_restAll, .int i_restMost, .int i_mostAll, .ref r_restLearn, .ref r_marksNow, .ref r_row, .int i_rows, .int i_seed])), (r_tape, .inl (cI, 64, .inl tf)), (r_kinds, .inl (cC, 6, .inl kd))] H := hP
                  have hD : va_D A [(h0, .inr (6, [.ref r_refused, .ref r_now, .ref r_then, .ref r_before, .ref r_asIs, .int i_kept, .ref r_tape, .int i_taped, .int (i_at + 1), .int i_well, .ref r_begins, .ref r_kinds, .int i_sort, .ref r_field, .ref r_willTeach, .ref r_isBack, .ref r_told, .ref r_bestSeats, .ref r_firstSeats, .int i_bestPass, .int i_bestAll, .int i_leastAll, .int i_fits, .int i_mayBeForged, .int i_restMany, .int i_restAll, .int i_restMost, .int i_mostAll, .ref r_restLearn, .ref r_marksNow, .ref r_row, .int i_rows, .int i_seed])), (r_tape, .inl (cI, 64, .inl tf)), (r_kinds, .inl (cC, 6, .inl kd))] := hD
                  refine lv_iload_n hx hb dX8_oneOf_76 rfl (lv_at hl 1 rfl) ?_
                  exact vx_iret (u := ((fun k => ([(i_at + 1), i_well] : List Int32).getD k 0), (fun k => ([] : List (Nat → Int32)).getD k (fun _ => 0)))) hx hb hr hlocks hK hP hD hS [0, 1, 2] rfl (by decide) ⟨(by decide), (show 0 ≤ (i_at + 1).toInt ∧ (i_at + 1).toInt ≤ 64 from ⟨by omega, by omega⟩), (show 0 ≤ i_well.toInt ∧ i_well.toInt ≤ 1 from ⟨by omega, by omega⟩), (show OneK tf i_taped.toInt i_well.toInt i_at.toInt 5 (i_at + 1).toInt i_well.toInt from (by unfold OneK; omega)), trivial⟩ dX8_oneOf_77
              · have c35 : x13.toInt = 98 := vy_eq c35
                refine lv_iload_n hx hb dX8_oneOf_47 rfl (lv_at hl 0 rfl) ?_
                refine lv_istore_n (lv' := [(2, .int 4), (3, .int 4), (0, .ref h0), (1, .ref r_kinds)]) hx hb dX8_oneOf_48 rfl hl (by decide) rfl (fun ls hl => ?_)
                refine lv_iinc (v := 5) (lv' := [(3, .int 5), (2, .int 4), (0, .ref h0), (1, .ref r_kinds)]) hx hb dX8_oneOf_49 hl (k := 1) rfl (by decide) (by decide) rfl (fun ls hl => ?_)
                refine lv_goto (tgt := 4) hx hb dX8_oneOf_52 (by decide) ?_
                refine lv_iload_n hx hb dX8_oneOf_4 rfl (lv_at hl 0 rfl) ?_
                refine lv_aload_n hx hb dX8_oneOf_5 rfl (lv_at hl 3 rfl) ?_
                refine va_alen hx hb hK hP 2 1 rfl rfl (v := 6) rfl dX8_oneOf_6 ?_
                refine lv_icmp_ge (tgt := 55) hx hb dX8_oneOf_7 (by decide) (fun c0 => absurd c0 (by decide)) (fun _ => ?_)
                refine lv_aload_n hx hb dX8_oneOf_10 rfl (lv_at hl 2 rfl) ?_
                refine va_get (D := (dC, dI)) (ci := 6) (v := .int i_well) (C := RX8) (T := TX8) (N := 33) hx hb hts iX8 hown hK hP 0 rfl rfl 9 (by decide) (hts (.fieldLink RX8 79 "NeighboursMarkModel" "well" "Z") (vm_at 1 rfl)) (fun _ h9 => h9) rfl dX8_oneOf_11 ?_
                refine lv_if_eq (tgt := 55) hx hb dX8_oneOf_14 (by decide) (fun c42 => by exfalso; have h9 : i_well.toInt = 0 := vy_eq c42; omega) (fun c42 => ?_)
                have c42 : i_well.toInt ≠ 0 := vy_ne c42
                refine lv_iload_n hx hb dX8_oneOf_17 rfl (lv_at hl 1 rfl) ?_
                refine lv_if_ge (tgt := 55) hx hb dX8_oneOf_18 (by decide) (fun _ => ?_) (fun c0 => absurd (by decide) c0)
                refine lv_iload_n hx hb dX8_oneOf_55 rfl (lv_at hl 1 rfl) ?_
                refine lv_if_ge (tgt := 66) hx hb dX8_oneOf_56 (by decide) (fun _ => ?_) (fun c0 => absurd (by decide) c0)
                refine lv_aload_n hx hb dX8_oneOf_66 rfl (lv_at hl 2 rfl) ?_
                refine lv_dup hx hb dX8_oneOf_67 rfl ?_
                refine va_get (D := (dC, dI)) (ci := 6) (v := .int i_at) (C := RX8) (T := TX8) (N := 33) hx hb hts iX8 hown hK hP 0 rfl rfl 8 (by decide) (hts (.fieldLink RX8 82 "NeighboursMarkModel" "at" "I") (vm_at 2 rfl)) (fun _ h9 => h9) rfl dX8_oneOf_68 ?_
                refine lv_iconst (v := 1) hx hb dX8_oneOf_71 (by decide) ?_
                refine lv_iadd hx hb dX8_oneOf_72 ?_
                have f43 := vy_add (x := i_at) (y := 1) rfl (show ((1 : Int32)).toInt = 1 by decide) (by omega) (by omega)
                refine va_put (D := (dC, dI)) (ci := 6) (v := .int (i_at + 1)) (ty := .int) (C := RX8) (T := TX8) (N := 33) hx hb hts iX8 tyX8 tyX8_ok nmX8 hown hK hP hD hS 0 rfl rfl 8 (by decide) (hts (.fieldLink RX8 82 "NeighboursMarkModel" "at" "I") (vm_at 2 rfl)) (fun _ h9 => h9) rfl (tyX8_ok 8 (by decide)) rfl rfl (Nat.le_of_ble_eq_true rfl) dX8_oneOf_73 (fun H locs hP hD hS => ?_)
                have hP : va_P (dC, dI) vwCl [(h0, .inr (6, [.ref r_refused, .ref r_now, .ref r_then, .ref r_before, .ref r_asIs, .int i_kept, .ref r_tape, .int i_taped, .int (i_at + 1), .int i_well, .ref r_begins, .ref r_kinds, .int i_sort, .ref r_field, .ref r_willTeach, .ref r_isBack, .ref r_told, .ref r_bestSeats, .ref r_firstSeats, .int i_bestPass, .int i_bestAll, .int i_leastAll, .int i_fits, .int i_mayBeForged, .int i_restMany, .int i_restAll, .int i_restMost, .int i_mostAll, .ref r_restLearn, .ref r_marksNow, .ref r_row, .int i_rows, .int i_seed])), (r_tape, .inl (cI, 64, .inl tf)), (r_kinds, .inl (cC, 6, .inl kd))] H := hP
                have hD : va_D A [(h0, .inr (6, [.ref r_refused, .ref r_now, .ref r_then, .ref r_before, .ref r_asIs, .int i_kept, .ref r_tape, .int i_taped, .int (i_at + 1), .int i_well, .ref r_begins, .ref r_kinds, .int i_sort, .ref r_field, .ref r_willTeach, .ref r_isBack, .ref r_told, .ref r_bestSeats, .ref r_firstSeats, .int i_bestPass, .int i_bestAll, .int i_leastAll, .int i_fits, .int i_mayBeForged, .int i_restMany, .int i_restAll, .int i_restMost, .int i_mostAll, .ref r_restLearn, .ref r_marksNow, .ref r_row, .int i_rows, .int i_seed])), (r_tape, .inl (cI, 64, .inl tf)), (r_kinds, .inl (cC, 6, .inl kd))] := hD
                refine lv_iload_n hx hb dX8_oneOf_76 rfl (lv_at hl 1 rfl) ?_
                exact vx_iret (u := ((fun k => ([(i_at + 1), i_well] : List Int32).getD k 0), (fun k => ([] : List (Nat → Int32)).getD k (fun _ => 0)))) hx hb hr hlocks hK hP hD hS [0, 1, 2] rfl (by decide) ⟨(by decide), (show 0 ≤ (i_at + 1).toInt ∧ (i_at + 1).toInt ≤ 64 from ⟨by omega, by omega⟩), (show 0 ≤ i_well.toInt ∧ i_well.toInt ≤ 1 from ⟨by omega, by omega⟩), (show OneK tf i_taped.toInt i_well.toInt i_at.toInt 4 (i_at + 1).toInt i_well.toInt from (by unfold OneK; omega)), trivial⟩ dX8_oneOf_77
            · have c30 : x13.toInt = 116 := vy_eq c30
              refine lv_iload_n hx hb dX8_oneOf_47 rfl (lv_at hl 0 rfl) ?_
              refine lv_istore_n (lv' := [(2, .int 3), (3, .int 3), (0, .ref h0), (1, .ref r_kinds)]) hx hb dX8_oneOf_48 rfl hl (by decide) rfl (fun ls hl => ?_)
              refine lv_iinc (v := 4) (lv' := [(3, .int 4), (2, .int 3), (0, .ref h0), (1, .ref r_kinds)]) hx hb dX8_oneOf_49 hl (k := 1) rfl (by decide) (by decide) rfl (fun ls hl => ?_)
              refine lv_goto (tgt := 4) hx hb dX8_oneOf_52 (by decide) ?_
              refine lv_iload_n hx hb dX8_oneOf_4 rfl (lv_at hl 0 rfl) ?_
              refine lv_aload_n hx hb dX8_oneOf_5 rfl (lv_at hl 3 rfl) ?_
              refine va_alen hx hb hK hP 2 1 rfl rfl (v := 6) rfl dX8_oneOf_6 ?_
              refine lv_icmp_ge (tgt := 55) hx hb dX8_oneOf_7 (by decide) (fun c0 => absurd c0 (by decide)) (fun _ => ?_)
              refine lv_aload_n hx hb dX8_oneOf_10 rfl (lv_at hl 2 rfl) ?_
              refine va_get (D := (dC, dI)) (ci := 6) (v := .int i_well) (C := RX8) (T := TX8) (N := 33) hx hb hts iX8 hown hK hP 0 rfl rfl 9 (by decide) (hts (.fieldLink RX8 79 "NeighboursMarkModel" "well" "Z") (vm_at 1 rfl)) (fun _ h9 => h9) rfl dX8_oneOf_11 ?_
              refine lv_if_eq (tgt := 55) hx hb dX8_oneOf_14 (by decide) (fun c44 => by exfalso; have h9 : i_well.toInt = 0 := vy_eq c44; omega) (fun c44 => ?_)
              have c44 : i_well.toInt ≠ 0 := vy_ne c44
              refine lv_iload_n hx hb dX8_oneOf_17 rfl (lv_at hl 1 rfl) ?_
              refine lv_if_ge (tgt := 55) hx hb dX8_oneOf_18 (by decide) (fun _ => ?_) (fun c0 => absurd (by decide) c0)
              refine lv_iload_n hx hb dX8_oneOf_55 rfl (lv_at hl 1 rfl) ?_
              refine lv_if_ge (tgt := 66) hx hb dX8_oneOf_56 (by decide) (fun _ => ?_) (fun c0 => absurd (by decide) c0)
              refine lv_aload_n hx hb dX8_oneOf_66 rfl (lv_at hl 2 rfl) ?_
              refine lv_dup hx hb dX8_oneOf_67 rfl ?_
              refine va_get (D := (dC, dI)) (ci := 6) (v := .int i_at) (C := RX8) (T := TX8) (N := 33) hx hb hts iX8 hown hK hP 0 rfl rfl 8 (by decide) (hts (.fieldLink RX8 82 "NeighboursMarkModel" "at" "I") (vm_at 2 rfl)) (fun _ h9 => h9) rfl dX8_oneOf_68 ?_
              refine lv_iconst (v := 1) hx hb dX8_oneOf_71 (by decide) ?_
              refine lv_iadd hx hb dX8_oneOf_72 ?_
              have f45 := vy_add (x := i_at) (y := 1) rfl (show ((1 : Int32)).toInt = 1 by decide) (by omega) (by omega)
              refine va_put (D := (dC, dI)) (ci := 6) (v := .int (i_at + 1)) (ty := .int) (C := RX8) (T := TX8) (N := 33) hx hb hts iX8 tyX8 tyX8_ok nmX8 hown hK hP hD hS 0 rfl rfl 8 (by decide) (hts (.fieldLink RX8 82 "NeighboursMarkModel" "at" "I") (vm_at 2 rfl)) (fun _ h9 => h9) rfl (tyX8_ok 8 (by decide)) rfl rfl (Nat.le_of_ble_eq_true rfl) dX8_oneOf_73 (fun H locs hP hD hS => ?_)
              have hP : va_P (dC, dI) vwCl [(h0, .inr (6, [.ref r_refused, .ref r_now, .ref r_then, .ref r_before, .ref r_asIs, .int i_kept, .ref r_tape, .int i_taped, .int (i_at + 1), .int i_well, .ref r_begins, .ref r_kinds, .int i_sort, .ref r_field, .ref r_willTeach, .ref r_isBack, .ref r_told, .ref r_bestSeats, .ref r_firstSeats, .int i_bestPass, .int i_bestAll, .int i_leastAll, .int i_fits, .int i_mayBeForged, .int i_restMany, .int i_restAll, .int i_restMost, .int i_mostAll, .ref r_restLearn, .ref r_marksNow, .ref r_row, .int i_rows, .int i_seed])), (r_tape, .inl (cI, 64, .inl tf)), (r_kinds, .inl (cC, 6, .inl kd))] H := hP
              have hD : va_D A [(h0, .inr (6, [.ref r_refused, .ref r_now, .ref r_then, .ref r_before, .ref r_asIs, .int i_kept, .ref r_tape, .int i_taped, .int (i_at + 1), .int i_well, .ref r_begins, .ref r_kinds, .int i_sort, .ref r_field, .ref r_willTeach, .ref r_isBack, .ref r_told, .ref r_bestSeats, .ref r_firstSeats, .int i_bestPass, .int i_bestAll, .int i_leastAll, .int i_fits, .int i_mayBeForged, .int i_restMany, .int i_restAll, .int i_restMost, .int i_mostAll, .ref r_restLearn, .ref r_marksNow, .ref r_row, .int i_rows, .int i_seed])), (r_tape, .inl (cI, 64, .inl tf)), (r_kinds, .inl (cC, 6, .inl kd))] := hD
              refine lv_iload_n hx hb dX8_oneOf_76 rfl (lv_at hl 1 rfl) ?_
              exact vx_iret (u := ((fun k => ([(i_at + 1), i_well] : List Int32).getD k 0), (fun k => ([] : List (Nat → Int32)).getD k (fun _ => 0)))) hx hb hr hlocks hK hP hD hS [0, 1, 2] rfl (by decide) ⟨(by decide), (show 0 ≤ (i_at + 1).toInt ∧ (i_at + 1).toInt ≤ 64 from ⟨by omega, by omega⟩), (show 0 ≤ i_well.toInt ∧ i_well.toInt ≤ 1 from ⟨by omega, by omega⟩), (show OneK tf i_taped.toInt i_well.toInt i_at.toInt 3 (i_at + 1).toInt i_well.toInt from (by unfold OneK; omega)), trivial⟩ dX8_oneOf_77
          · have c25 : x13.toInt = 104 := vy_eq c25
            refine lv_iload_n hx hb dX8_oneOf_47 rfl (lv_at hl 0 rfl) ?_
            refine lv_istore_n (lv' := [(2, .int 2), (3, .int 2), (0, .ref h0), (1, .ref r_kinds)]) hx hb dX8_oneOf_48 rfl hl (by decide) rfl (fun ls hl => ?_)
            refine lv_iinc (v := 3) (lv' := [(3, .int 3), (2, .int 2), (0, .ref h0), (1, .ref r_kinds)]) hx hb dX8_oneOf_49 hl (k := 1) rfl (by decide) (by decide) rfl (fun ls hl => ?_)
            refine lv_goto (tgt := 4) hx hb dX8_oneOf_52 (by decide) ?_
            refine lv_iload_n hx hb dX8_oneOf_4 rfl (lv_at hl 0 rfl) ?_
            refine lv_aload_n hx hb dX8_oneOf_5 rfl (lv_at hl 3 rfl) ?_
            refine va_alen hx hb hK hP 2 1 rfl rfl (v := 6) rfl dX8_oneOf_6 ?_
            refine lv_icmp_ge (tgt := 55) hx hb dX8_oneOf_7 (by decide) (fun c0 => absurd c0 (by decide)) (fun _ => ?_)
            refine lv_aload_n hx hb dX8_oneOf_10 rfl (lv_at hl 2 rfl) ?_
            refine va_get (D := (dC, dI)) (ci := 6) (v := .int i_well) (C := RX8) (T := TX8) (N := 33) hx hb hts iX8 hown hK hP 0 rfl rfl 9 (by decide) (hts (.fieldLink RX8 79 "NeighboursMarkModel" "well" "Z") (vm_at 1 rfl)) (fun _ h9 => h9) rfl dX8_oneOf_11 ?_
            refine lv_if_eq (tgt := 55) hx hb dX8_oneOf_14 (by decide) (fun c46 => by exfalso; have h9 : i_well.toInt = 0 := vy_eq c46; omega) (fun c46 => ?_)
            have c46 : i_well.toInt ≠ 0 := vy_ne c46
            refine lv_iload_n hx hb dX8_oneOf_17 rfl (lv_at hl 1 rfl) ?_
            refine lv_if_ge (tgt := 55) hx hb dX8_oneOf_18 (by decide) (fun _ => ?_) (fun c0 => absurd (by decide) c0)
            refine lv_iload_n hx hb dX8_oneOf_55 rfl (lv_at hl 1 rfl) ?_
            refine lv_if_ge (tgt := 66) hx hb dX8_oneOf_56 (by decide) (fun _ => ?_) (fun c0 => absurd (by decide) c0)
            refine lv_aload_n hx hb dX8_oneOf_66 rfl (lv_at hl 2 rfl) ?_
            refine lv_dup hx hb dX8_oneOf_67 rfl ?_
            refine va_get (D := (dC, dI)) (ci := 6) (v := .int i_at) (C := RX8) (T := TX8) (N := 33) hx hb hts iX8 hown hK hP 0 rfl rfl 8 (by decide) (hts (.fieldLink RX8 82 "NeighboursMarkModel" "at" "I") (vm_at 2 rfl)) (fun _ h9 => h9) rfl dX8_oneOf_68 ?_
            refine lv_iconst (v := 1) hx hb dX8_oneOf_71 (by decide) ?_
            refine lv_iadd hx hb dX8_oneOf_72 ?_
            have f47 := vy_add (x := i_at) (y := 1) rfl (show ((1 : Int32)).toInt = 1 by decide) (by omega) (by omega)
            refine va_put (D := (dC, dI)) (ci := 6) (v := .int (i_at + 1)) (ty := .int) (C := RX8) (T := TX8) (N := 33) hx hb hts iX8 tyX8 tyX8_ok nmX8 hown hK hP hD hS 0 rfl rfl 8 (by decide) (hts (.fieldLink RX8 82 "NeighboursMarkModel" "at" "I") (vm_at 2 rfl)) (fun _ h9 => h9) rfl (tyX8_ok 8 (by decide)) rfl rfl (Nat.le_of_ble_eq_true rfl) dX8_oneOf_73 (fun H locs hP hD hS => ?_)
            have hP : va_P (dC, dI) vwCl [(h0, .inr (6, [.ref r_refused, .ref r_now, .ref r_then, .ref r_before, .ref r_asIs, .int i_kept, .ref r_tape, .int i_taped, .int (i_at + 1), .int i_well, .ref r_begins, .ref r_kinds, .int i_sort, .ref r_field, .ref r_willTeach, .ref r_isBack, .ref r_told, .ref r_bestSeats, .ref r_firstSeats, .int i_bestPass, .int i_bestAll, .int i_leastAll, .int i_fits, .int i_mayBeForged, .int i_restMany, .int i_restAll, .int i_restMost, .int i_mostAll, .ref r_restLearn, .ref r_marksNow, .ref r_row, .int i_rows, .int i_seed])), (r_tape, .inl (cI, 64, .inl tf)), (r_kinds, .inl (cC, 6, .inl kd))] H := hP
            have hD : va_D A [(h0, .inr (6, [.ref r_refused, .ref r_now, .ref r_then, .ref r_before, .ref r_asIs, .int i_kept, .ref r_tape, .int i_taped, .int (i_at + 1), .int i_well, .ref r_begins, .ref r_kinds, .int i_sort, .ref r_field, .ref r_willTeach, .ref r_isBack, .ref r_told, .ref r_bestSeats, .ref r_firstSeats, .int i_bestPass, .int i_bestAll, .int i_leastAll, .int i_fits, .int i_mayBeForged, .int i_restMany, .int i_restAll, .int i_restMost, .int i_mostAll, .ref r_restLearn, .ref r_marksNow, .ref r_row, .int i_rows, .int i_seed])), (r_tape, .inl (cI, 64, .inl tf)), (r_kinds, .inl (cC, 6, .inl kd))] := hD
            refine lv_iload_n hx hb dX8_oneOf_76 rfl (lv_at hl 1 rfl) ?_
            exact vx_iret (u := ((fun k => ([(i_at + 1), i_well] : List Int32).getD k 0), (fun k => ([] : List (Nat → Int32)).getD k (fun _ => 0)))) hx hb hr hlocks hK hP hD hS [0, 1, 2] rfl (by decide) ⟨(by decide), (show 0 ≤ (i_at + 1).toInt ∧ (i_at + 1).toInt ≤ 64 from ⟨by omega, by omega⟩), (show 0 ≤ i_well.toInt ∧ i_well.toInt ≤ 1 from ⟨by omega, by omega⟩), (show OneK tf i_taped.toInt i_well.toInt i_at.toInt 2 (i_at + 1).toInt i_well.toInt from (by unfold OneK; omega)), trivial⟩ dX8_oneOf_77
        · have c20 : x13.toInt = 108 := vy_eq c20
          refine lv_iload_n hx hb dX8_oneOf_47 rfl (lv_at hl 0 rfl) ?_
          refine lv_istore_n (lv' := [(2, .int 1), (3, .int 1), (0, .ref h0), (1, .ref r_kinds)]) hx hb dX8_oneOf_48 rfl hl (by decide) rfl (fun ls hl => ?_)
          refine lv_iinc (v := 2) (lv' := [(3, .int 2), (2, .int 1), (0, .ref h0), (1, .ref r_kinds)]) hx hb dX8_oneOf_49 hl (k := 1) rfl (by decide) (by decide) rfl (fun ls hl => ?_)
          refine lv_goto (tgt := 4) hx hb dX8_oneOf_52 (by decide) ?_
          refine lv_iload_n hx hb dX8_oneOf_4 rfl (lv_at hl 0 rfl) ?_
          refine lv_aload_n hx hb dX8_oneOf_5 rfl (lv_at hl 3 rfl) ?_
          refine va_alen hx hb hK hP 2 1 rfl rfl (v := 6) rfl dX8_oneOf_6 ?_
          refine lv_icmp_ge (tgt := 55) hx hb dX8_oneOf_7 (by decide) (fun c0 => absurd c0 (by decide)) (fun _ => ?_)
          refine lv_aload_n hx hb dX8_oneOf_10 rfl (lv_at hl 2 rfl) ?_
          refine va_get (D := (dC, dI)) (ci := 6) (v := .int i_well) (C := RX8) (T := TX8) (N := 33) hx hb hts iX8 hown hK hP 0 rfl rfl 9 (by decide) (hts (.fieldLink RX8 79 "NeighboursMarkModel" "well" "Z") (vm_at 1 rfl)) (fun _ h9 => h9) rfl dX8_oneOf_11 ?_
          refine lv_if_eq (tgt := 55) hx hb dX8_oneOf_14 (by decide) (fun c48 => by exfalso; have h9 : i_well.toInt = 0 := vy_eq c48; omega) (fun c48 => ?_)
          have c48 : i_well.toInt ≠ 0 := vy_ne c48
          refine lv_iload_n hx hb dX8_oneOf_17 rfl (lv_at hl 1 rfl) ?_
          refine lv_if_ge (tgt := 55) hx hb dX8_oneOf_18 (by decide) (fun _ => ?_) (fun c0 => absurd (by decide) c0)
          refine lv_iload_n hx hb dX8_oneOf_55 rfl (lv_at hl 1 rfl) ?_
          refine lv_if_ge (tgt := 66) hx hb dX8_oneOf_56 (by decide) (fun _ => ?_) (fun c0 => absurd (by decide) c0)
          refine lv_aload_n hx hb dX8_oneOf_66 rfl (lv_at hl 2 rfl) ?_
          refine lv_dup hx hb dX8_oneOf_67 rfl ?_
          refine va_get (D := (dC, dI)) (ci := 6) (v := .int i_at) (C := RX8) (T := TX8) (N := 33) hx hb hts iX8 hown hK hP 0 rfl rfl 8 (by decide) (hts (.fieldLink RX8 82 "NeighboursMarkModel" "at" "I") (vm_at 2 rfl)) (fun _ h9 => h9) rfl dX8_oneOf_68 ?_
          refine lv_iconst (v := 1) hx hb dX8_oneOf_71 (by decide) ?_
          refine lv_iadd hx hb dX8_oneOf_72 ?_
          have f49 := vy_add (x := i_at) (y := 1) rfl (show ((1 : Int32)).toInt = 1 by decide) (by omega) (by omega)
          refine va_put (D := (dC, dI)) (ci := 6) (v := .int (i_at + 1)) (ty := .int) (C := RX8) (T := TX8) (N := 33) hx hb hts iX8 tyX8 tyX8_ok nmX8 hown hK hP hD hS 0 rfl rfl 8 (by decide) (hts (.fieldLink RX8 82 "NeighboursMarkModel" "at" "I") (vm_at 2 rfl)) (fun _ h9 => h9) rfl (tyX8_ok 8 (by decide)) rfl rfl (Nat.le_of_ble_eq_true rfl) dX8_oneOf_73 (fun H locs hP hD hS => ?_)
          have hP : va_P (dC, dI) vwCl [(h0, .inr (6, [.ref r_refused, .ref r_now, .ref r_then, .ref r_before, .ref r_asIs, .int i_kept, .ref r_tape, .int i_taped, .int (i_at + 1), .int i_well, .ref r_begins, .ref r_kinds, .int i_sort, .ref r_field, .ref r_willTeach, .ref r_isBack, .ref r_told, .ref r_bestSeats, .ref r_firstSeats, .int i_bestPass, .int i_bestAll, .int i_leastAll, .int i_fits, .int i_mayBeForged, .int i_restMany, .int i_restAll, .int i_restMost, .int i_mostAll, .ref r_restLearn, .ref r_marksNow, .ref r_row, .int i_rows, .int i_seed])), (r_tape, .inl (cI, 64, .inl tf)), (r_kinds, .inl (cC, 6, .inl kd))] H := hP
          have hD : va_D A [(h0, .inr (6, [.ref r_refused, .ref r_now, .ref r_then, .ref r_before, .ref r_asIs, .int i_kept, .ref r_tape, .int i_taped, .int (i_at + 1), .int i_well, .ref r_begins, .ref r_kinds, .int i_sort, .ref r_field, .ref r_willTeach, .ref r_isBack, .ref r_told, .ref r_bestSeats, .ref r_firstSeats, .int i_bestPass, .int i_bestAll, .int i_leastAll, .int i_fits, .int i_mayBeForged, .int i_restMany, .int i_restAll, .int i_restMost, .int i_mostAll, .ref r_restLearn, .ref r_marksNow, .ref r_row, .int i_rows, .int i_seed])), (r_tape, .inl (cI, 64, .inl tf)), (r_kinds, .inl (cC, 6, .inl kd))] := hD
          refine lv_iload_n hx hb dX8_oneOf_76 rfl (lv_at hl 1 rfl) ?_
          exact vx_iret (u := ((fun k => ([(i_at + 1), i_well] : List Int32).getD k 0), (fun k => ([] : List (Nat → Int32)).getD k (fun _ => 0)))) hx hb hr hlocks hK hP hD hS [0, 1, 2] rfl (by decide) ⟨(by decide), (show 0 ≤ (i_at + 1).toInt ∧ (i_at + 1).toInt ≤ 64 from ⟨by omega, by omega⟩), (show 0 ≤ i_well.toInt ∧ i_well.toInt ≤ 1 from ⟨by omega, by omega⟩), (show OneK tf i_taped.toInt i_well.toInt i_at.toInt 1 (i_at + 1).toInt i_well.toInt from (by unfold OneK; omega)), trivial⟩ dX8_oneOf_77
      · have c15 : x13.toInt = 115 := vy_eq c15
        refine lv_iload_n hx hb dX8_oneOf_47 rfl (lv_at hl 0 rfl) ?_
        refine lv_istore_n (lv' := [(2, .int 0), (3, .int 0), (0, .ref h0), (1, .ref r_kinds)]) hx hb dX8_oneOf_48 rfl hl (by decide) rfl (fun ls hl => ?_)
        refine lv_iinc (v := 1) (lv' := [(3, .int 1), (2, .int 0), (0, .ref h0), (1, .ref r_kinds)]) hx hb dX8_oneOf_49 hl (k := 1) rfl (by decide) (by decide) rfl (fun ls hl => ?_)
        refine lv_goto (tgt := 4) hx hb dX8_oneOf_52 (by decide) ?_
        refine lv_iload_n hx hb dX8_oneOf_4 rfl (lv_at hl 0 rfl) ?_
        refine lv_aload_n hx hb dX8_oneOf_5 rfl (lv_at hl 3 rfl) ?_
        refine va_alen hx hb hK hP 2 1 rfl rfl (v := 6) rfl dX8_oneOf_6 ?_
        refine lv_icmp_ge (tgt := 55) hx hb dX8_oneOf_7 (by decide) (fun c0 => absurd c0 (by decide)) (fun _ => ?_)
        refine lv_aload_n hx hb dX8_oneOf_10 rfl (lv_at hl 2 rfl) ?_
        refine va_get (D := (dC, dI)) (ci := 6) (v := .int i_well) (C := RX8) (T := TX8) (N := 33) hx hb hts iX8 hown hK hP 0 rfl rfl 9 (by decide) (hts (.fieldLink RX8 79 "NeighboursMarkModel" "well" "Z") (vm_at 1 rfl)) (fun _ h9 => h9) rfl dX8_oneOf_11 ?_
        refine lv_if_eq (tgt := 55) hx hb dX8_oneOf_14 (by decide) (fun c50 => by exfalso; have h9 : i_well.toInt = 0 := vy_eq c50; omega) (fun c50 => ?_)
        have c50 : i_well.toInt ≠ 0 := vy_ne c50
        refine lv_iload_n hx hb dX8_oneOf_17 rfl (lv_at hl 1 rfl) ?_
        refine lv_if_ge (tgt := 55) hx hb dX8_oneOf_18 (by decide) (fun _ => ?_) (fun c0 => absurd (by decide) c0)
        refine lv_iload_n hx hb dX8_oneOf_55 rfl (lv_at hl 1 rfl) ?_
        refine lv_if_ge (tgt := 66) hx hb dX8_oneOf_56 (by decide) (fun _ => ?_) (fun c0 => absurd (by decide) c0)
        refine lv_aload_n hx hb dX8_oneOf_66 rfl (lv_at hl 2 rfl) ?_
        refine lv_dup hx hb dX8_oneOf_67 rfl ?_
        refine va_get (D := (dC, dI)) (ci := 6) (v := .int i_at) (C := RX8) (T := TX8) (N := 33) hx hb hts iX8 hown hK hP 0 rfl rfl 8 (by decide) (hts (.fieldLink RX8 82 "NeighboursMarkModel" "at" "I") (vm_at 2 rfl)) (fun _ h9 => h9) rfl dX8_oneOf_68 ?_
        refine lv_iconst (v := 1) hx hb dX8_oneOf_71 (by decide) ?_
        refine lv_iadd hx hb dX8_oneOf_72 ?_
        have f51 := vy_add (x := i_at) (y := 1) rfl (show ((1 : Int32)).toInt = 1 by decide) (by omega) (by omega)
        refine va_put (D := (dC, dI)) (ci := 6) (v := .int (i_at + 1)) (ty := .int) (C := RX8) (T := TX8) (N := 33) hx hb hts iX8 tyX8 tyX8_ok nmX8 hown hK hP hD hS 0 rfl rfl 8 (by decide) (hts (.fieldLink RX8 82 "NeighboursMarkModel" "at" "I") (vm_at 2 rfl)) (fun _ h9 => h9) rfl (tyX8_ok 8 (by decide)) rfl rfl (Nat.le_of_ble_eq_true rfl) dX8_oneOf_73 (fun H locs hP hD hS => ?_)
        have hP : va_P (dC, dI) vwCl [(h0, .inr (6, [.ref r_refused, .ref r_now, .ref r_then, .ref r_before, .ref r_asIs, .int i_kept, .ref r_tape, .int i_taped, .int (i_at + 1), .int i_well, .ref r_begins, .ref r_kinds, .int i_sort, .ref r_field, .ref r_willTeach, .ref r_isBack, .ref r_told, .ref r_bestSeats, .ref r_firstSeats, .int i_bestPass, .int i_bestAll, .int i_leastAll, .int i_fits, .int i_mayBeForged, .int i_restMany, .int i_restAll, .int i_restMost, .int i_mostAll, .ref r_restLearn, .ref r_marksNow, .ref r_row, .int i_rows, .int i_seed])), (r_tape, .inl (cI, 64, .inl tf)), (r_kinds, .inl (cC, 6, .inl kd))] H := hP
        have hD : va_D A [(h0, .inr (6, [.ref r_refused, .ref r_now, .ref r_then, .ref r_before, .ref r_asIs, .int i_kept, .ref r_tape, .int i_taped, .int (i_at + 1), .int i_well, .ref r_begins, .ref r_kinds, .int i_sort, .ref r_field, .ref r_willTeach, .ref r_isBack, .ref r_told, .ref r_bestSeats, .ref r_firstSeats, .int i_bestPass, .int i_bestAll, .int i_leastAll, .int i_fits, .int i_mayBeForged, .int i_restMany, .int i_restAll, .int i_restMost, .int i_mostAll, .ref r_restLearn, .ref r_marksNow, .ref r_row, .int i_rows, .int i_seed])), (r_tape, .inl (cI, 64, .inl tf)), (r_kinds, .inl (cC, 6, .inl kd))] := hD
        refine lv_iload_n hx hb dX8_oneOf_76 rfl (lv_at hl 1 rfl) ?_
        exact vx_iret (u := ((fun k => ([(i_at + 1), i_well] : List Int32).getD k 0), (fun k => ([] : List (Nat → Int32)).getD k (fun _ => 0)))) hx hb hr hlocks hK hP hD hS [0, 1, 2] rfl (by decide) ⟨(by decide), (show 0 ≤ (i_at + 1).toInt ∧ (i_at + 1).toInt ≤ 64 from ⟨by omega, by omega⟩), (show 0 ≤ i_well.toInt ∧ i_well.toInt ≤ 1 from ⟨by omega, by omega⟩), (show OneK tf i_taped.toInt i_well.toInt i_at.toInt 0 (i_at + 1).toInt i_well.toInt from (by unfold OneK; omega)), trivial⟩ dX8_oneOf_77
set_option maxHeartbeats 8000000 in
set_option maxRecDepth 100000 in
theorem r_fig1 (l : Launch) (dC : Nat → ClassId) (dI : Nat → Nat → Nat) (cI cC cZ : ClassId) (sz : Nat) (h0 r_refused r_now r_then r_before r_asIs r_tape r_begins r_kinds r_field r_willTeach r_isBack r_told r_bestSeats r_firstSeats r_restLearn r_marksNow r_row : Nat) (i_kept i_taped i_at i_well i_sort i_bestPass i_bestAll i_leastAll i_fits i_mayBeForged i_restMany i_restAll i_restMost i_mostAll i_rows i_seed : Int32) (tf : Nat → Int32) (b_i_kept : 0 ≤ i_kept.toInt ∧ i_kept.toInt ≤ 1) (b_i_taped : 0 ≤ i_taped.toInt ∧ i_taped.toInt ≤ 64) (b_i_at : 0 ≤ i_at.toInt ∧ i_at.toInt ≤ 64) (b_i_well : 0 ≤ i_well.toInt ∧ i_well.toInt ≤ 1) (b_i_sort : 0 ≤ i_sort.toInt ∧ i_sort.toInt ≤ 6) (b_i_rows : 0 ≤ i_rows.toInt ∧ i_rows.toInt ≤ 6) : Met l yX8_figures wsX8_figures ({ frames := 0, cells := 0, slots := 0, locals := 0 }) (va_Pc [.ref h0, .int 1] (vx_B (dC, dI) (vx_T cI cC cZ) sz [(h0, .inr (6, [.ref r_refused, .ref r_now, .ref r_then, .ref r_before, .ref r_asIs, .int i_kept, .ref r_tape, .int i_taped, .int i_at, .int i_well, .ref r_begins, .ref r_kinds, .int i_sort, .ref r_field, .ref r_willTeach, .ref r_isBack, .ref r_told, .ref r_bestSeats, .ref r_firstSeats, .int i_bestPass, .int i_bestAll, .int i_leastAll, .int i_fits, .int i_mayBeForged, .int i_restMany, .int i_restAll, .int i_restMost, .int i_mostAll, .ref r_restLearn, .ref r_marksNow, .ref r_row, .int i_rows, .int i_seed])), (r_tape, .inl (cI, 64, .inl tf))])) (va_Qi (fun (r : Int32) (u : (Nat → Int32) × (Nat → Nat → Int32)) => (0 ≤ r.toInt ∧ r.toInt ≤ 9) ∧ (0 ≤ (u.1 0).toInt ∧ (u.1 0).toInt ≤ 64) ∧ (0 ≤ (u.1 1).toInt ∧ (u.1 1).toInt ≤ 1) ∧ (Fig1 tf i_taped.toInt i_well.toInt i_at.toInt r.toInt (u.1 0).toInt (u.1 1).toInt) ∧ True) (vx_C (dC, dI) (vx_T cI cC cZ) (va_A [(h0, .inr (6, [.ref r_refused, .ref r_now, .ref r_then, .ref r_before, .ref r_asIs, .int i_kept, .ref r_tape, .int i_taped, .int i_at, .int i_well, .ref r_begins, .ref r_kinds, .int i_sort, .ref r_field, .ref r_willTeach, .ref r_isBack, .ref r_told, .ref r_bestSeats, .ref r_firstSeats, .int i_bestPass, .int i_bestAll, .int i_leastAll, .int i_fits, .int i_mayBeForged, .int i_restMany, .int i_restAll, .int i_restMost, .int i_mostAll, .ref r_restLearn, .ref r_marksNow, .ref r_row, .int i_rows, .int i_seed])), (r_tape, .inl (cI, 64, .inl tf))] sz) (fun (u : (Nat → Int32) × (Nat → Nat → Int32)) => [(h0, .inr (6, [.ref r_refused, .ref r_now, .ref r_then, .ref r_before, .ref r_asIs, .int i_kept, .ref r_tape, .int i_taped, .int (u.1 0), .int (u.1 1), .ref r_begins, .ref r_kinds, .int i_sort, .ref r_field, .ref r_willTeach, .ref r_isBack, .ref r_told, .ref r_bestSeats, .ref r_firstSeats, .int i_bestPass, .int i_bestAll, .int i_leastAll, .int i_fits, .int i_mayBeForged, .int i_restMany, .int i_restAll, .int i_restMost, .int i_mostAll, .ref r_restLearn, .ref r_marksNow, .ref r_row, .int i_rows, .int i_seed])), (r_tape, .inl (cI, 64, .inl tf))])) (va_A [(h0, .inr (6, [.ref r_refused, .ref r_now, .ref r_then, .ref r_before, .ref r_asIs, .int i_kept, .ref r_tape, .int i_taped, .int i_at, .int i_well, .ref r_begins, .ref r_kinds, .int i_sort, .ref r_field, .ref r_willTeach, .ref r_isBack, .ref r_told, .ref r_bestSeats, .ref r_firstSeats, .int i_bestPass, .int i_bestAll, .int i_leastAll, .int i_fits, .int i_mayBeForged, .int i_restMany, .int i_restAll, .int i_restMost, .int i_mostAll, .ref r_restLearn, .ref r_marksNow, .ref r_row, .int i_rows, .int i_seed])), (r_tape, .inl (cI, 64, .inl tf))] sz)) 0 0 (va_A [(h0, .inr (6, [.ref r_refused, .ref r_now, .ref r_then, .ref r_before, .ref r_asIs, .int i_kept, .ref r_tape, .int i_taped, .int i_at, .int i_well, .ref r_begins, .ref r_kinds, .int i_sort, .ref r_field, .ref r_willTeach, .ref r_isBack, .ref r_told, .ref r_bestSeats, .ref r_firstSeats, .int i_bestPass, .int i_bestAll, .int i_leastAll, .int i_fits, .int i_mayBeForged, .int i_restMany, .int i_restAll, .int i_restMost, .int i_mostAll, .ref r_restLearn, .ref r_marksNow, .ref r_row, .int i_rows, .int i_seed])), (r_tape, .inl (cI, 64, .inl tf))] sz) := by
  refine Met.ofW (cc := cX8_figures) (maxL := 4) (ret := (some .int)) (by decide) rfl ?_
  intro p e s m args below meth c s₁ B hml hv
  obtain ⟨rfl, hsz, hP, hK, hD0, hN⟩ := hv
  have hx := B.exec
  have hb := B.bytes
  have hr := B.returns
  have hts := atoms_spec (ws := wsX8_figures) B.pre
  have hown : s.vm.findClass RX8 = some m.cls := findClass_of_methodNamed B.named
  have hlocks := B.notSynchronized
  subst hsz
  have hD := hD0.self (sz := s.heap.size)
  generalize hAe : va_A [(h0, .inr (6, [.ref r_refused, .ref r_now, .ref r_then, .ref r_before, .ref r_asIs, .int i_kept, .ref r_tape, .int i_taped, .int i_at, .int i_well, .ref r_begins, .ref r_kinds, .int i_sort, .ref r_field, .ref r_willTeach, .ref r_isBack, .ref r_told, .ref r_bestSeats, .ref r_firstSeats, .int i_bestPass, .int i_bestAll, .int i_leastAll, .int i_fits, .int i_mayBeForged, .int i_restMany, .int i_restAll, .int i_restMost, .int i_mostAll, .ref r_restLearn, .ref r_marksNow, .ref r_row, .int i_rows, .int i_seed])), (r_tape, .inl (cI, 64, .inl tf))] s.heap.size = A at hD hN ⊢
  have hA : ∀ q : Nat, s.heap.size ≤ q → A q := fun q h => by rw [← hAe]; exact Or.inr h
  have hS : va_S A s.heap s.heap [] := va_S.rf
  have hl := lv_entry ([.ref h0, .int 1]) (n := 4) (Nat.le_of_ble_eq_true rfl)
  rw [lg_entry_eq]
  generalize (lg_sl ([.ref h0, .int 1]) ++ List.replicate (4 - (lg_sl ([.ref h0, .int 1])).length) Slot.unset).toArray = ls at hl ⊢
  have hl : lv_has ls 4 [(0, .ref h0), (1, .int 1)] := hl
  have iX8 : ∀ w ∈ u_ws RX8 TX8 33, w ∈ wsX8_figures := fun w h => (List.mem_cons_of_mem _ (List.mem_append_right _ h))
  refine lv_iconst (v := 0) hx hb dX8_figures_0 (by decide) ?_
  refine lv_istore_n (lv' := [(2, .int 0), (0, .ref h0), (1, .int 1)]) hx hb dX8_figures_1 rfl hl (by decide) rfl (fun ls hl => ?_)
  refine lv_iconst (v := 0) hx hb dX8_figures_2 (by decide) ?_
  refine lv_istore_n (lv' := [(3, .int 0), (2, .int 0), (0, .ref h0), (1, .int 1)]) hx hb dX8_figures_3 rfl hl (by decide) rfl (fun ls hl => ?_)
  refine lv_aload_n hx hb dX8_figures_4 rfl (lv_at hl 2 rfl) ?_
  refine va_get (D := (dC, dI)) (ci := 6) (v := .int i_well) (C := RX8) (T := TX8) (N := 33) hx hb hts iX8 hown hK hP 0 rfl rfl 9 (by decide) (hts (.fieldLink RX8 79 "NeighboursMarkModel" "well" "Z") (vm_at 1 rfl)) (fun _ h9 => h9) rfl dX8_figures_5 ?_
  refine lv_if_eq (tgt := 89) hx hb dX8_figures_8 (by decide) (fun c1 => ?_) (fun c1 => ?_)
  · have c1 : i_well.toInt = 0 := vy_eq c1
    refine lv_iload_n hx hb dX8_figures_89 rfl (lv_at hl 0 rfl) ?_
    refine lv_if_ne (tgt := 98) hx hb dX8_figures_90 (by decide) (fun c0 => absurd (by decide) c0) (fun _ => ?_)
    refine lv_aload_n hx hb dX8_figures_93 rfl (lv_at hl 2 rfl) ?_
    refine lv_iconst (v := 0) hx hb dX8_figures_94 (by decide) ?_
    refine va_put (D := (dC, dI)) (ci := 6) (v := .int 0) (ty := .boolean) (C := RX8) (T := TX8) (N := 33) hx hb hts iX8 tyX8 tyX8_ok nmX8 hown hK hP hD hS 0 rfl rfl 9 (by decide) (hts (.fieldLink RX8 79 "NeighboursMarkModel" "well" "Z") (vm_at 1 rfl)) (fun _ h9 => h9) rfl (tyX8_ok 9 (by decide)) rfl rfl (Nat.le_of_ble_eq_true rfl) dX8_figures_95 (fun H locs hP hD hS => ?_)
    have hP : va_P (dC, dI) vwCl [(h0, .inr (6, [.ref r_refused, .ref r_now, .ref r_then, .ref r_before, .ref r_asIs, .int i_kept, .ref r_tape, .int i_taped, .int i_at, .int 0, .ref r_begins, .ref r_kinds, .int i_sort, .ref r_field, .ref r_willTeach, .ref r_isBack, .ref r_told, .ref r_bestSeats, .ref r_firstSeats, .int i_bestPass, .int i_bestAll, .int i_leastAll, .int i_fits, .int i_mayBeForged, .int i_restMany, .int i_restAll, .int i_restMost, .int i_mostAll, .ref r_restLearn, .ref r_marksNow, .ref r_row, .int i_rows, .int i_seed])), (r_tape, .inl (cI, 64, .inl tf))] H := hP
    have hD : va_D A [(h0, .inr (6, [.ref r_refused, .ref r_now, .ref r_then, .ref r_before, .ref r_asIs, .int i_kept, .ref r_tape, .int i_taped, .int i_at, .int 0, .ref r_begins, .ref r_kinds, .int i_sort, .ref r_field, .ref r_willTeach, .ref r_isBack, .ref r_told, .ref r_bestSeats, .ref r_firstSeats, .int i_bestPass, .int i_bestAll, .int i_leastAll, .int i_fits, .int i_mayBeForged, .int i_restMany, .int i_restAll, .int i_restMost, .int i_mostAll, .ref r_restLearn, .ref r_marksNow, .ref r_row, .int i_rows, .int i_seed])), (r_tape, .inl (cI, 64, .inl tf))] := hD
    refine lv_iload_n hx hb dX8_figures_98 rfl (lv_at hl 1 rfl) ?_
    exact vx_iret (u := ((fun k => ([i_at, 0] : List Int32).getD k 0), (fun k => ([] : List (Nat → Int32)).getD k (fun _ => 0)))) hx hb hr hlocks hK hP hD hS [0, 1] rfl (by decide) ⟨(by decide), (show 0 ≤ i_at.toInt ∧ i_at.toInt ≤ 64 from ⟨by omega, by omega⟩), (show 0 ≤ (0 : Int32).toInt ∧ (0 : Int32).toInt ≤ 1 by decide), (show Fig1 tf i_taped.toInt i_well.toInt i_at.toInt 0 i_at.toInt 0 from (by unfold Fig1; omega)), trivial⟩ dX8_figures_99
  · have c1 : i_well.toInt ≠ 0 := vy_ne c1
    refine lv_iload_n hx hb dX8_figures_11 rfl (lv_at hl 0 rfl) ?_
    refine lv_iload_n hx hb dX8_figures_12 rfl (lv_at hl 3 rfl) ?_
    refine lv_icmp_ge (tgt := 89) hx hb dX8_figures_13 (by decide) (fun c0 => absurd c0 (by decide)) (fun _ => ?_)
    refine lv_aload_n hx hb dX8_figures_16 rfl (lv_at hl 2 rfl) ?_
    refine va_get (D := (dC, dI)) (ci := 6) (v := .int i_at) (C := RX8) (T := TX8) (N := 33) hx hb hts iX8 hown hK hP 0 rfl rfl 8 (by decide) (hts (.fieldLink RX8 82 "NeighboursMarkModel" "at" "I") (vm_at 2 rfl)) (fun _ h9 => h9) rfl dX8_figures_17 ?_
    refine lv_aload_n hx hb dX8_figures_20 rfl (lv_at hl 2 rfl) ?_
    refine va_get (D := (dC, dI)) (ci := 6) (v := .int i_taped) (C := RX8) (T := TX8) (N := 33) hx hb hts iX8 hown hK hP 0 rfl rfl 7 (by decide) (hts (.fieldLink RX8 75 "NeighboursMarkModel" "taped" "I") (vm_at 3 rfl)) (fun _ h9 => h9) rfl dX8_figures_21 ?_
    refine lv_icmp_ge (tgt := 89) hx hb dX8_figures_24 (by decide) (fun c2 => ?_) (fun c2 => ?_)
    · have c2 : i_at.toInt ≥ i_taped.toInt := vy_le c2
      refine lv_iload_n hx hb dX8_figures_89 rfl (lv_at hl 0 rfl) ?_
      refine lv_if_ne (tgt := 98) hx hb dX8_figures_90 (by decide) (fun c0 => absurd (by decide) c0) (fun _ => ?_)
      refine lv_aload_n hx hb dX8_figures_93 rfl (lv_at hl 2 rfl) ?_
      refine lv_iconst (v := 0) hx hb dX8_figures_94 (by decide) ?_
      refine va_put (D := (dC, dI)) (ci := 6) (v := .int 0) (ty := .boolean) (C := RX8) (T := TX8) (N := 33) hx hb hts iX8 tyX8 tyX8_ok nmX8 hown hK hP hD hS 0 rfl rfl 9 (by decide) (hts (.fieldLink RX8 79 "NeighboursMarkModel" "well" "Z") (vm_at 1 rfl)) (fun _ h9 => h9) rfl (tyX8_ok 9 (by decide)) rfl rfl (Nat.le_of_ble_eq_true rfl) dX8_figures_95 (fun H locs hP hD hS => ?_)
      have hP : va_P (dC, dI) vwCl [(h0, .inr (6, [.ref r_refused, .ref r_now, .ref r_then, .ref r_before, .ref r_asIs, .int i_kept, .ref r_tape, .int i_taped, .int i_at, .int 0, .ref r_begins, .ref r_kinds, .int i_sort, .ref r_field, .ref r_willTeach, .ref r_isBack, .ref r_told, .ref r_bestSeats, .ref r_firstSeats, .int i_bestPass, .int i_bestAll, .int i_leastAll, .int i_fits, .int i_mayBeForged, .int i_restMany, .int i_restAll, .int i_restMost, .int i_mostAll, .ref r_restLearn, .ref r_marksNow, .ref r_row, .int i_rows, .int i_seed])), (r_tape, .inl (cI, 64, .inl tf))] H := hP
      have hD : va_D A [(h0, .inr (6, [.ref r_refused, .ref r_now, .ref r_then, .ref r_before, .ref r_asIs, .int i_kept, .ref r_tape, .int i_taped, .int i_at, .int 0, .ref r_begins, .ref r_kinds, .int i_sort, .ref r_field, .ref r_willTeach, .ref r_isBack, .ref r_told, .ref r_bestSeats, .ref r_firstSeats, .int i_bestPass, .int i_bestAll, .int i_leastAll, .int i_fits, .int i_mayBeForged, .int i_restMany, .int i_restAll, .int i_restMost, .int i_mostAll, .ref r_restLearn, .ref r_marksNow, .ref r_row, .int i_rows, .int i_seed])), (r_tape, .inl (cI, 64, .inl tf))] := hD
      refine lv_iload_n hx hb dX8_figures_98 rfl (lv_at hl 1 rfl) ?_
      exact vx_iret (u := ((fun k => ([i_at, 0] : List Int32).getD k 0), (fun k => ([] : List (Nat → Int32)).getD k (fun _ => 0)))) hx hb hr hlocks hK hP hD hS [0, 1] rfl (by decide) ⟨(by decide), (show 0 ≤ i_at.toInt ∧ i_at.toInt ≤ 64 from ⟨by omega, by omega⟩), (show 0 ≤ (0 : Int32).toInt ∧ (0 : Int32).toInt ≤ 1 by decide), (show Fig1 tf i_taped.toInt i_well.toInt i_at.toInt 0 i_at.toInt 0 from (by unfold Fig1; omega)), trivial⟩ dX8_figures_99
    · have c2 : i_at.toInt < i_taped.toInt := vy_nle c2
      refine lv_aload_n hx hb dX8_figures_27 rfl (lv_at hl 2 rfl) ?_
      refine va_get (D := (dC, dI)) (ci := 6) (v := .ref r_tape) (C := RX8) (T := TX8) (N := 33) hx hb hts iX8 hown hK hP 0 rfl rfl 6 (by decide) (hts (.fieldLink RX8 25 "NeighboursMarkModel" "tape" "[I") (vm_at 4 rfl)) (fun _ h9 => h9) rfl dX8_figures_28 ?_
      refine lv_aload_n hx hb dX8_figures_31 rfl (lv_at hl 2 rfl) ?_
      refine va_get (D := (dC, dI)) (ci := 6) (v := .int i_at) (C := RX8) (T := TX8) (N := 33) hx hb hts iX8 hown hK hP 0 rfl rfl 8 (by decide) (hts (.fieldLink RX8 82 "NeighboursMarkModel" "at" "I") (vm_at 2 rfl)) (fun _ h9 => h9) rfl dX8_figures_32 ?_
      refine va_iald hx hb hK hP 1 0 rfl rfl (vp_in_iff.mpr ⟨by omega, by omega⟩) dX8_figures_35 ?_
      refine lv_topi (fun x3 ex3 => ?_)
      have fx3 : x3.toInt = (tf i_at.toInt.toNat).toInt := by rw [ex3]; show (tf i_at.toInt.toNat).toInt = _; rfl
      refine lv_bipush (v := 48) hx hb dX8_figures_36 (by decide) ?_
      refine lv_icmp_lt (tgt := 89) hx hb dX8_figures_38 (by decide) (fun c4 => ?_) (fun c4 => ?_)
      · have c4 : x3.toInt < 48 := vy_lt c4
        refine lv_iload_n hx hb dX8_figures_89 rfl (lv_at hl 0 rfl) ?_
        refine lv_if_ne (tgt := 98) hx hb dX8_figures_90 (by decide) (fun c0 => absurd (by decide) c0) (fun _ => ?_)
        refine lv_aload_n hx hb dX8_figures_93 rfl (lv_at hl 2 rfl) ?_
        refine lv_iconst (v := 0) hx hb dX8_figures_94 (by decide) ?_
        refine va_put (D := (dC, dI)) (ci := 6) (v := .int 0) (ty := .boolean) (C := RX8) (T := TX8) (N := 33) hx hb hts iX8 tyX8 tyX8_ok nmX8 hown hK hP hD hS 0 rfl rfl 9 (by decide) (hts (.fieldLink RX8 79 "NeighboursMarkModel" "well" "Z") (vm_at 1 rfl)) (fun _ h9 => h9) rfl (tyX8_ok 9 (by decide)) rfl rfl (Nat.le_of_ble_eq_true rfl) dX8_figures_95 (fun H locs hP hD hS => ?_)
        have hP : va_P (dC, dI) vwCl [(h0, .inr (6, [.ref r_refused, .ref r_now, .ref r_then, .ref r_before, .ref r_asIs, .int i_kept, .ref r_tape, .int i_taped, .int i_at, .int 0, .ref r_begins, .ref r_kinds, .int i_sort, .ref r_field, .ref r_willTeach, .ref r_isBack, .ref r_told, .ref r_bestSeats, .ref r_firstSeats, .int i_bestPass, .int i_bestAll, .int i_leastAll, .int i_fits, .int i_mayBeForged, .int i_restMany, .int i_restAll, .int i_restMost, .int i_mostAll, .ref r_restLearn, .ref r_marksNow, .ref r_row, .int i_rows, .int i_seed])), (r_tape, .inl (cI, 64, .inl tf))] H := hP
        have hD : va_D A [(h0, .inr (6, [.ref r_refused, .ref r_now, .ref r_then, .ref r_before, .ref r_asIs, .int i_kept, .ref r_tape, .int i_taped, .int i_at, .int 0, .ref r_begins, .ref r_kinds, .int i_sort, .ref r_field, .ref r_willTeach, .ref r_isBack, .ref r_told, .ref r_bestSeats, .ref r_firstSeats, .int i_bestPass, .int i_bestAll, .int i_leastAll, .int i_fits, .int i_mayBeForged, .int i_restMany, .int i_restAll, .int i_restMost, .int i_mostAll, .ref r_restLearn, .ref r_marksNow, .ref r_row, .int i_rows, .int i_seed])), (r_tape, .inl (cI, 64, .inl tf))] := hD
        refine lv_iload_n hx hb dX8_figures_98 rfl (lv_at hl 1 rfl) ?_
        exact vx_iret (u := ((fun k => ([i_at, 0] : List Int32).getD k 0), (fun k => ([] : List (Nat → Int32)).getD k (fun _ => 0)))) hx hb hr hlocks hK hP hD hS [0, 1] rfl (by decide) ⟨(by decide), (show 0 ≤ i_at.toInt ∧ i_at.toInt ≤ 64 from ⟨by omega, by omega⟩), (show 0 ≤ (0 : Int32).toInt ∧ (0 : Int32).toInt ≤ 1 by decide), (show Fig1 tf i_taped.toInt i_well.toInt i_at.toInt 0 i_at.toInt 0 from (by unfold Fig1; omega)), trivial⟩ dX8_figures_99
      · have c4 : x3.toInt ≥ 48 := vy_nlt c4
        refine lv_aload_n hx hb dX8_figures_41 rfl (lv_at hl 2 rfl) ?_
        refine va_get (D := (dC, dI)) (ci := 6) (v := .ref r_tape) (C := RX8) (T := TX8) (N := 33) hx hb hts iX8 hown hK hP 0 rfl rfl 6 (by decide) (hts (.fieldLink RX8 25 "NeighboursMarkModel" "tape" "[I") (vm_at 4 rfl)) (fun _ h9 => h9) rfl dX8_figures_42 ?_
        refine lv_aload_n hx hb dX8_figures_45 rfl (lv_at hl 2 rfl) ?_
        refine va_get (D := (dC, dI)) (ci := 6) (v := .int i_at) (C := RX8) (T := TX8) (N := 33) hx hb hts iX8 hown hK hP 0 rfl rfl 8 (by decide) (hts (.fieldLink RX8 82 "NeighboursMarkModel" "at" "I") (vm_at 2 rfl)) (fun _ h9 => h9) rfl dX8_figures_46 ?_
        refine va_iald hx hb hK hP 1 0 rfl rfl (vp_in_iff.mpr ⟨by omega, by omega⟩) dX8_figures_49 ?_
        refine lv_topi (fun x5 ex5 => ?_)
        have ex5 : x3 = x5 := (ex5.trans ex3.symm).symm
        subst ex5
        refine lv_bipush (v := 57) hx hb dX8_figures_50 (by decide) ?_
        refine lv_icmp_gt (tgt := 89) hx hb dX8_figures_52 (by decide) (fun c6 => ?_) (fun c6 => ?_)
        · have c6 : x3.toInt > 57 := vy_lt c6
          refine lv_iload_n hx hb dX8_figures_89 rfl (lv_at hl 0 rfl) ?_
          refine lv_if_ne (tgt := 98) hx hb dX8_figures_90 (by decide) (fun c0 => absurd (by decide) c0) (fun _ => ?_)
          refine lv_aload_n hx hb dX8_figures_93 rfl (lv_at hl 2 rfl) ?_
          refine lv_iconst (v := 0) hx hb dX8_figures_94 (by decide) ?_
          refine va_put (D := (dC, dI)) (ci := 6) (v := .int 0) (ty := .boolean) (C := RX8) (T := TX8) (N := 33) hx hb hts iX8 tyX8 tyX8_ok nmX8 hown hK hP hD hS 0 rfl rfl 9 (by decide) (hts (.fieldLink RX8 79 "NeighboursMarkModel" "well" "Z") (vm_at 1 rfl)) (fun _ h9 => h9) rfl (tyX8_ok 9 (by decide)) rfl rfl (Nat.le_of_ble_eq_true rfl) dX8_figures_95 (fun H locs hP hD hS => ?_)
          have hP : va_P (dC, dI) vwCl [(h0, .inr (6, [.ref r_refused, .ref r_now, .ref r_then, .ref r_before, .ref r_asIs, .int i_kept, .ref r_tape, .int i_taped, .int i_at, .int 0, .ref r_begins, .ref r_kinds, .int i_sort, .ref r_field, .ref r_willTeach, .ref r_isBack, .ref r_told, .ref r_bestSeats, .ref r_firstSeats, .int i_bestPass, .int i_bestAll, .int i_leastAll, .int i_fits, .int i_mayBeForged, .int i_restMany, .int i_restAll, .int i_restMost, .int i_mostAll, .ref r_restLearn, .ref r_marksNow, .ref r_row, .int i_rows, .int i_seed])), (r_tape, .inl (cI, 64, .inl tf))] H := hP
          have hD : va_D A [(h0, .inr (6, [.ref r_refused, .ref r_now, .ref r_then, .ref r_before, .ref r_asIs, .int i_kept, .ref r_tape, .int i_taped, .int i_at, .int 0, .ref r_begins, .ref r_kinds, .int i_sort, .ref r_field, .ref r_willTeach, .ref r_isBack, .ref r_told, .ref r_bestSeats, .ref r_firstSeats, .int i_bestPass, .int i_bestAll, .int i_leastAll, .int i_fits, .int i_mayBeForged, .int i_restMany, .int i_restAll, .int i_restMost, .int i_mostAll, .ref r_restLearn, .ref r_marksNow, .ref r_row, .int i_rows, .int i_seed])), (r_tape, .inl (cI, 64, .inl tf))] := hD
          refine lv_iload_n hx hb dX8_figures_98 rfl (lv_at hl 1 rfl) ?_
          exact vx_iret (u := ((fun k => ([i_at, 0] : List Int32).getD k 0), (fun k => ([] : List (Nat → Int32)).getD k (fun _ => 0)))) hx hb hr hlocks hK hP hD hS [0, 1] rfl (by decide) ⟨(by decide), (show 0 ≤ i_at.toInt ∧ i_at.toInt ≤ 64 from ⟨by omega, by omega⟩), (show 0 ≤ (0 : Int32).toInt ∧ (0 : Int32).toInt ≤ 1 by decide), (show Fig1 tf i_taped.toInt i_well.toInt i_at.toInt 0 i_at.toInt 0 from (by unfold Fig1; omega)), trivial⟩ dX8_figures_99
        · have c6 : x3.toInt ≤ 57 := vy_nlt c6
          refine lv_bipush (v := 10) hx hb dX8_figures_55 (by decide) ?_
          refine lv_iload_n hx hb dX8_figures_57 rfl (lv_at hl 1 rfl) ?_
          refine lv_imul hx hb dX8_figures_58 ?_
          refine lv_topi (fun x7 ex7 => ?_)
          have ex7 : 0 = x7 := (ex7.trans (by decide)).symm
          subst ex7
          refine lv_aload_n hx hb dX8_figures_59 rfl (lv_at hl 2 rfl) ?_
          refine va_get (D := (dC, dI)) (ci := 6) (v := .ref r_tape) (C := RX8) (T := TX8) (N := 33) hx hb hts iX8 hown hK hP 0 rfl rfl 6 (by decide) (hts (.fieldLink RX8 25 "NeighboursMarkModel" "tape" "[I") (vm_at 4 rfl)) (fun _ h9 => h9) rfl dX8_figures_60 ?_
          refine lv_aload_n hx hb dX8_figures_63 rfl (lv_at hl 2 rfl) ?_
          refine va_get (D := (dC, dI)) (ci := 6) (v := .int i_at) (C := RX8) (T := TX8) (N := 33) hx hb hts iX8 hown hK hP 0 rfl rfl 8 (by decide) (hts (.fieldLink RX8 82 "NeighboursMarkModel" "at" "I") (vm_at 2 rfl)) (fun _ h9 => h9) rfl dX8_figures_64 ?_
          refine va_iald hx hb hK hP 1 0 rfl rfl (vp_in_iff.mpr ⟨by omega, by omega⟩) dX8_figures_67 ?_
          refine lv_topi (fun x8 ex8 => ?_)
          have ex8 : x3 = x8 := (ex8.trans ex3.symm).symm
          subst ex8
          refine lv_iadd hx hb dX8_figures_68 ?_
          have f9 := vy_add (x := 0) (y := x3) (show ((0 : Int32)).toInt = 0 by decide) rfl (by omega) (by omega)
          refine lv_bipush (v := 48) hx hb dX8_figures_69 (by decide) ?_
          refine lv_isub hx hb dX8_figures_71 ?_
          refine lv_topi (fun x10 ex10 => ?_)
          have fx10 : x10.toInt = (0 + x3).toInt - 48 := by rw [ex10]; exact vy_sub (x := (0 + x3)) (y := 48) rfl (show ((48 : Int32)).toInt = 48 by decide) (by omega) (by omega)
          refine lv_istore_n (lv' := [(2, .int x10), (3, .int 0), (0, .ref h0), (1, .int 1)]) hx hb dX8_figures_72 rfl hl (by decide) rfl (fun ls hl => ?_)
          refine lv_aload_n hx hb dX8_figures_73 rfl (lv_at hl 2 rfl) ?_
          refine lv_dup hx hb dX8_figures_74 rfl ?_
          refine va_get (D := (dC, dI)) (ci := 6) (v := .int i_at) (C := RX8) (T := TX8) (N := 33) hx hb hts iX8 hown hK hP 0 rfl rfl 8 (by decide) (hts (.fieldLink RX8 82 "NeighboursMarkModel" "at" "I") (vm_at 2 rfl)) (fun _ h9 => h9) rfl dX8_figures_75 ?_
          refine lv_iconst (v := 1) hx hb dX8_figures_78 (by decide) ?_
          refine lv_iadd hx hb dX8_figures_79 ?_
          have f11 := vy_add (x := i_at) (y := 1) rfl (show ((1 : Int32)).toInt = 1 by decide) (by omega) (by omega)
          refine va_put (D := (dC, dI)) (ci := 6) (v := .int (i_at + 1)) (ty := .int) (C := RX8) (T := TX8) (N := 33) hx hb hts iX8 tyX8 tyX8_ok nmX8 hown hK hP hD hS 0 rfl rfl 8 (by decide) (hts (.fieldLink RX8 82 "NeighboursMarkModel" "at" "I") (vm_at 2 rfl)) (fun _ h9 => h9) rfl (tyX8_ok 8 (by decide)) rfl rfl (Nat.le_of_ble_eq_true rfl) dX8_figures_80 (fun H locs hP hD hS => ?_)
          have hP : va_P (dC, dI) vwCl [(h0, .inr (6, [.ref r_refused, .ref r_now, .ref r_then, .ref r_before, .ref r_asIs, .int i_kept, .ref r_tape, .int i_taped, .int (i_at + 1), .int i_well, .ref r_begins, .ref r_kinds, .int i_sort, .ref r_field, .ref r_willTeach, .ref r_isBack, .ref r_told, .ref r_bestSeats, .ref r_firstSeats, .int i_bestPass, .int i_bestAll, .int i_leastAll, .int i_fits, .int i_mayBeForged, .int i_restMany, .int i_restAll, .int i_restMost, .int i_mostAll, .ref r_restLearn, .ref r_marksNow, .ref r_row, .int i_rows, .int i_seed])), (r_tape, .inl (cI, 64, .inl tf))] H := hP
          have hD : va_D A [(h0, .inr (6, [.ref r_refused, .ref r_now, .ref r_then, .ref r_before, .ref r_asIs, .int i_kept, .ref r_tape, .int i_taped, .int (i_at + 1), .int i_well, .ref r_begins, .ref r_kinds, .int i_sort, .ref r_field, .ref r_willTeach, .ref r_isBack, .ref r_told, .ref r_bestSeats, .ref r_firstSeats, .int i_bestPass, .int i_bestAll, .int i_leastAll, .int i_fits, .int i_mayBeForged, .int i_restMany, .int i_restAll, .int i_restMost, .int i_mostAll, .ref r_restLearn, .ref r_marksNow, .ref r_row, .int i_rows, .int i_seed])), (r_tape, .inl (cI, 64, .inl tf))] := hD
          refine lv_iinc (v := 1) (lv' := [(3, .int 1), (2, .int x10), (0, .ref h0), (1, .int 1)]) hx hb dX8_figures_83 hl (k := 1) rfl (by decide) (by decide) rfl (fun ls hl => ?_)
          refine lv_goto (tgt := 4) hx hb dX8_figures_86 (by decide) ?_
          refine lv_aload_n hx hb dX8_figures_4 rfl (lv_at hl 2 rfl) ?_
          refine va_get (D := (dC, dI)) (ci := 6) (v := .int i_well) (C := RX8) (T := TX8) (N := 33) hx hb hts iX8 hown hK hP 0 rfl rfl 9 (by decide) (hts (.fieldLink RX8 79 "NeighboursMarkModel" "well" "Z") (vm_at 1 rfl)) (fun _ h9 => h9) rfl dX8_figures_5 ?_
          refine lv_if_eq (tgt := 89) hx hb dX8_figures_8 (by decide) (fun c12 => by exfalso; have h9 : i_well.toInt = 0 := vy_eq c12; omega) (fun c12 => ?_)
          have c12 : i_well.toInt ≠ 0 := vy_ne c12
          refine lv_iload_n hx hb dX8_figures_11 rfl (lv_at hl 0 rfl) ?_
          refine lv_iload_n hx hb dX8_figures_12 rfl (lv_at hl 3 rfl) ?_
          refine lv_icmp_ge (tgt := 89) hx hb dX8_figures_13 (by decide) (fun _ => ?_) (fun c0 => absurd (by decide) c0)
          refine lv_iload_n hx hb dX8_figures_89 rfl (lv_at hl 0 rfl) ?_
          refine lv_if_ne (tgt := 98) hx hb dX8_figures_90 (by decide) (fun _ => ?_) (fun c0 => absurd c0 (by decide))
          refine lv_iload_n hx hb dX8_figures_98 rfl (lv_at hl 1 rfl) ?_
          exact vx_iret (u := ((fun k => ([(i_at + 1), i_well] : List Int32).getD k 0), (fun k => ([] : List (Nat → Int32)).getD k (fun _ => 0)))) hx hb hr hlocks hK hP hD hS [0, 1] rfl (by decide) ⟨⟨by omega, by omega⟩, (show 0 ≤ (i_at + 1).toInt ∧ (i_at + 1).toInt ≤ 64 from ⟨by omega, by omega⟩), (show 0 ≤ i_well.toInt ∧ i_well.toInt ≤ 1 from ⟨by omega, by omega⟩), (show Fig1 tf i_taped.toInt i_well.toInt i_at.toInt x10.toInt (i_at + 1).toInt i_well.toInt from (by unfold Fig1; omega)), trivial⟩ dX8_figures_99
set_option maxHeartbeats 8000000 in
set_option maxRecDepth 100000 in
theorem r_fig2 (l : Launch) (dC : Nat → ClassId) (dI : Nat → Nat → Nat) (cI cC cZ : ClassId) (sz : Nat) (h0 r_refused r_now r_then r_before r_asIs r_tape r_begins r_kinds r_field r_willTeach r_isBack r_told r_bestSeats r_firstSeats r_restLearn r_marksNow r_row : Nat) (i_kept i_taped i_at i_well i_sort i_bestPass i_bestAll i_leastAll i_fits i_mayBeForged i_restMany i_restAll i_restMost i_mostAll i_rows i_seed : Int32) (tf : Nat → Int32) (b_i_kept : 0 ≤ i_kept.toInt ∧ i_kept.toInt ≤ 1) (b_i_taped : 0 ≤ i_taped.toInt ∧ i_taped.toInt ≤ 64) (b_i_at : 0 ≤ i_at.toInt ∧ i_at.toInt ≤ 64) (b_i_well : 0 ≤ i_well.toInt ∧ i_well.toInt ≤ 1) (b_i_sort : 0 ≤ i_sort.toInt ∧ i_sort.toInt ≤ 6) (b_i_rows : 0 ≤ i_rows.toInt ∧ i_rows.toInt ≤ 6) : Met l yX8_figures wsX8_figures ({ frames := 0, cells := 0, slots := 0, locals := 0 }) (va_Pc [.ref h0, .int 2] (vx_B (dC, dI) (vx_T cI cC cZ) sz [(h0, .inr (6, [.ref r_refused, .ref r_now, .ref r_then, .ref r_before, .ref r_asIs, .int i_kept, .ref r_tape, .int i_taped, .int i_at, .int i_well, .ref r_begins, .ref r_kinds, .int i_sort, .ref r_field, .ref r_willTeach, .ref r_isBack, .ref r_told, .ref r_bestSeats, .ref r_firstSeats, .int i_bestPass, .int i_bestAll, .int i_leastAll, .int i_fits, .int i_mayBeForged, .int i_restMany, .int i_restAll, .int i_restMost, .int i_mostAll, .ref r_restLearn, .ref r_marksNow, .ref r_row, .int i_rows, .int i_seed])), (r_tape, .inl (cI, 64, .inl tf))])) (va_Qi (fun (r : Int32) (u : (Nat → Int32) × (Nat → Nat → Int32)) => (0 ≤ r.toInt ∧ r.toInt ≤ 99) ∧ (0 ≤ (u.1 0).toInt ∧ (u.1 0).toInt ≤ 64) ∧ (0 ≤ (u.1 1).toInt ∧ (u.1 1).toInt ≤ 1) ∧ (Fig2 tf i_taped.toInt i_well.toInt i_at.toInt r.toInt (u.1 0).toInt (u.1 1).toInt) ∧ True) (vx_C (dC, dI) (vx_T cI cC cZ) (va_A [(h0, .inr (6, [.ref r_refused, .ref r_now, .ref r_then, .ref r_before, .ref r_asIs, .int i_kept, .ref r_tape, .int i_taped, .int i_at, .int i_well, .ref r_begins, .ref r_kinds, .int i_sort, .ref r_field, .ref r_willTeach, .ref r_isBack, .ref r_told, .ref r_bestSeats, .ref r_firstSeats, .int i_bestPass, .int i_bestAll, .int i_leastAll, .int i_fits, .int i_mayBeForged, .int i_restMany, .int i_restAll, .int i_restMost, .int i_mostAll, .ref r_restLearn, .ref r_marksNow, .ref r_row, .int i_rows, .int i_seed])), (r_tape, .inl (cI, 64, .inl tf))] sz) (fun (u : (Nat → Int32) × (Nat → Nat → Int32)) => [(h0, .inr (6, [.ref r_refused, .ref r_now, .ref r_then, .ref r_before, .ref r_asIs, .int i_kept, .ref r_tape, .int i_taped, .int (u.1 0), .int (u.1 1), .ref r_begins, .ref r_kinds, .int i_sort, .ref r_field, .ref r_willTeach, .ref r_isBack, .ref r_told, .ref r_bestSeats, .ref r_firstSeats, .int i_bestPass, .int i_bestAll, .int i_leastAll, .int i_fits, .int i_mayBeForged, .int i_restMany, .int i_restAll, .int i_restMost, .int i_mostAll, .ref r_restLearn, .ref r_marksNow, .ref r_row, .int i_rows, .int i_seed])), (r_tape, .inl (cI, 64, .inl tf))])) (va_A [(h0, .inr (6, [.ref r_refused, .ref r_now, .ref r_then, .ref r_before, .ref r_asIs, .int i_kept, .ref r_tape, .int i_taped, .int i_at, .int i_well, .ref r_begins, .ref r_kinds, .int i_sort, .ref r_field, .ref r_willTeach, .ref r_isBack, .ref r_told, .ref r_bestSeats, .ref r_firstSeats, .int i_bestPass, .int i_bestAll, .int i_leastAll, .int i_fits, .int i_mayBeForged, .int i_restMany, .int i_restAll, .int i_restMost, .int i_mostAll, .ref r_restLearn, .ref r_marksNow, .ref r_row, .int i_rows, .int i_seed])), (r_tape, .inl (cI, 64, .inl tf))] sz)) 0 0 (va_A [(h0, .inr (6, [.ref r_refused, .ref r_now, .ref r_then, .ref r_before, .ref r_asIs, .int i_kept, .ref r_tape, .int i_taped, .int i_at, .int i_well, .ref r_begins, .ref r_kinds, .int i_sort, .ref r_field, .ref r_willTeach, .ref r_isBack, .ref r_told, .ref r_bestSeats, .ref r_firstSeats, .int i_bestPass, .int i_bestAll, .int i_leastAll, .int i_fits, .int i_mayBeForged, .int i_restMany, .int i_restAll, .int i_restMost, .int i_mostAll, .ref r_restLearn, .ref r_marksNow, .ref r_row, .int i_rows, .int i_seed])), (r_tape, .inl (cI, 64, .inl tf))] sz) := by
  refine Met.ofW (cc := cX8_figures) (maxL := 4) (ret := (some .int)) (by decide) rfl ?_
  intro p e s m args below meth c s₁ B hml hv
  obtain ⟨rfl, hsz, hP, hK, hD0, hN⟩ := hv
  have hx := B.exec
  have hb := B.bytes
  have hr := B.returns
  have hts := atoms_spec (ws := wsX8_figures) B.pre
  have hown : s.vm.findClass RX8 = some m.cls := findClass_of_methodNamed B.named
  have hlocks := B.notSynchronized
  subst hsz
  have hD := hD0.self (sz := s.heap.size)
  generalize hAe : va_A [(h0, .inr (6, [.ref r_refused, .ref r_now, .ref r_then, .ref r_before, .ref r_asIs, .int i_kept, .ref r_tape, .int i_taped, .int i_at, .int i_well, .ref r_begins, .ref r_kinds, .int i_sort, .ref r_field, .ref r_willTeach, .ref r_isBack, .ref r_told, .ref r_bestSeats, .ref r_firstSeats, .int i_bestPass, .int i_bestAll, .int i_leastAll, .int i_fits, .int i_mayBeForged, .int i_restMany, .int i_restAll, .int i_restMost, .int i_mostAll, .ref r_restLearn, .ref r_marksNow, .ref r_row, .int i_rows, .int i_seed])), (r_tape, .inl (cI, 64, .inl tf))] s.heap.size = A at hD hN ⊢
  have hA : ∀ q : Nat, s.heap.size ≤ q → A q := fun q h => by rw [← hAe]; exact Or.inr h
  have hS : va_S A s.heap s.heap [] := va_S.rf
  have hl := lv_entry ([.ref h0, .int 2]) (n := 4) (Nat.le_of_ble_eq_true rfl)
  rw [lg_entry_eq]
  generalize (lg_sl ([.ref h0, .int 2]) ++ List.replicate (4 - (lg_sl ([.ref h0, .int 2])).length) Slot.unset).toArray = ls at hl ⊢
  have hl : lv_has ls 4 [(0, .ref h0), (1, .int 2)] := hl
  have iX8 : ∀ w ∈ u_ws RX8 TX8 33, w ∈ wsX8_figures := fun w h => (List.mem_cons_of_mem _ (List.mem_append_right _ h))
  refine lv_iconst (v := 0) hx hb dX8_figures_0 (by decide) ?_
  refine lv_istore_n (lv' := [(2, .int 0), (0, .ref h0), (1, .int 2)]) hx hb dX8_figures_1 rfl hl (by decide) rfl (fun ls hl => ?_)
  refine lv_iconst (v := 0) hx hb dX8_figures_2 (by decide) ?_
  refine lv_istore_n (lv' := [(3, .int 0), (2, .int 0), (0, .ref h0), (1, .int 2)]) hx hb dX8_figures_3 rfl hl (by decide) rfl (fun ls hl => ?_)
  refine lv_aload_n hx hb dX8_figures_4 rfl (lv_at hl 2 rfl) ?_
  refine va_get (D := (dC, dI)) (ci := 6) (v := .int i_well) (C := RX8) (T := TX8) (N := 33) hx hb hts iX8 hown hK hP 0 rfl rfl 9 (by decide) (hts (.fieldLink RX8 79 "NeighboursMarkModel" "well" "Z") (vm_at 1 rfl)) (fun _ h9 => h9) rfl dX8_figures_5 ?_
  refine lv_if_eq (tgt := 89) hx hb dX8_figures_8 (by decide) (fun c1 => ?_) (fun c1 => ?_)
  · have c1 : i_well.toInt = 0 := vy_eq c1
    refine lv_iload_n hx hb dX8_figures_89 rfl (lv_at hl 0 rfl) ?_
    refine lv_if_ne (tgt := 98) hx hb dX8_figures_90 (by decide) (fun c0 => absurd (by decide) c0) (fun _ => ?_)
    refine lv_aload_n hx hb dX8_figures_93 rfl (lv_at hl 2 rfl) ?_
    refine lv_iconst (v := 0) hx hb dX8_figures_94 (by decide) ?_
    refine va_put (D := (dC, dI)) (ci := 6) (v := .int 0) (ty := .boolean) (C := RX8) (T := TX8) (N := 33) hx hb hts iX8 tyX8 tyX8_ok nmX8 hown hK hP hD hS 0 rfl rfl 9 (by decide) (hts (.fieldLink RX8 79 "NeighboursMarkModel" "well" "Z") (vm_at 1 rfl)) (fun _ h9 => h9) rfl (tyX8_ok 9 (by decide)) rfl rfl (Nat.le_of_ble_eq_true rfl) dX8_figures_95 (fun H locs hP hD hS => ?_)
    have hP : va_P (dC, dI) vwCl [(h0, .inr (6, [.ref r_refused, .ref r_now, .ref r_then, .ref r_before, .ref r_asIs, .int i_kept, .ref r_tape, .int i_taped, .int i_at, .int 0, .ref r_begins, .ref r_kinds, .int i_sort, .ref r_field, .ref r_willTeach, .ref r_isBack, .ref r_told, .ref r_bestSeats, .ref r_firstSeats, .int i_bestPass, .int i_bestAll, .int i_leastAll, .int i_fits, .int i_mayBeForged, .int i_restMany, .int i_restAll, .int i_restMost, .int i_mostAll, .ref r_restLearn, .ref r_marksNow, .ref r_row, .int i_rows, .int i_seed])), (r_tape, .inl (cI, 64, .inl tf))] H := hP
    have hD : va_D A [(h0, .inr (6, [.ref r_refused, .ref r_now, .ref r_then, .ref r_before, .ref r_asIs, .int i_kept, .ref r_tape, .int i_taped, .int i_at, .int 0, .ref r_begins, .ref r_kinds, .int i_sort, .ref r_field, .ref r_willTeach, .ref r_isBack, .ref r_told, .ref r_bestSeats, .ref r_firstSeats, .int i_bestPass, .int i_bestAll, .int i_leastAll, .int i_fits, .int i_mayBeForged, .int i_restMany, .int i_restAll, .int i_restMost, .int i_mostAll, .ref r_restLearn, .ref r_marksNow, .ref r_row, .int i_rows, .int i_seed])), (r_tape, .inl (cI, 64, .inl tf))] := hD
    refine lv_iload_n hx hb dX8_figures_98 rfl (lv_at hl 1 rfl) ?_
    exact vx_iret (u := ((fun k => ([i_at, 0] : List Int32).getD k 0), (fun k => ([] : List (Nat → Int32)).getD k (fun _ => 0)))) hx hb hr hlocks hK hP hD hS [0, 1] rfl (by decide) ⟨(by decide), (show 0 ≤ i_at.toInt ∧ i_at.toInt ≤ 64 from ⟨by omega, by omega⟩), (show 0 ≤ (0 : Int32).toInt ∧ (0 : Int32).toInt ≤ 1 by decide), (show Fig2 tf i_taped.toInt i_well.toInt i_at.toInt 0 i_at.toInt 0 from (by unfold Fig2; omega)), trivial⟩ dX8_figures_99
  · have c1 : i_well.toInt ≠ 0 := vy_ne c1
    refine lv_iload_n hx hb dX8_figures_11 rfl (lv_at hl 0 rfl) ?_
    refine lv_iload_n hx hb dX8_figures_12 rfl (lv_at hl 3 rfl) ?_
    refine lv_icmp_ge (tgt := 89) hx hb dX8_figures_13 (by decide) (fun c0 => absurd c0 (by decide)) (fun _ => ?_)
    refine lv_aload_n hx hb dX8_figures_16 rfl (lv_at hl 2 rfl) ?_
    refine va_get (D := (dC, dI)) (ci := 6) (v := .int i_at) (C := RX8) (T := TX8) (N := 33) hx hb hts iX8 hown hK hP 0 rfl rfl 8 (by decide) (hts (.fieldLink RX8 82 "NeighboursMarkModel" "at" "I") (vm_at 2 rfl)) (fun _ h9 => h9) rfl dX8_figures_17 ?_
    refine lv_aload_n hx hb dX8_figures_20 rfl (lv_at hl 2 rfl) ?_
    refine va_get (D := (dC, dI)) (ci := 6) (v := .int i_taped) (C := RX8) (T := TX8) (N := 33) hx hb hts iX8 hown hK hP 0 rfl rfl 7 (by decide) (hts (.fieldLink RX8 75 "NeighboursMarkModel" "taped" "I") (vm_at 3 rfl)) (fun _ h9 => h9) rfl dX8_figures_21 ?_
    refine lv_icmp_ge (tgt := 89) hx hb dX8_figures_24 (by decide) (fun c2 => ?_) (fun c2 => ?_)
    · have c2 : i_at.toInt ≥ i_taped.toInt := vy_le c2
      refine lv_iload_n hx hb dX8_figures_89 rfl (lv_at hl 0 rfl) ?_
      refine lv_if_ne (tgt := 98) hx hb dX8_figures_90 (by decide) (fun c0 => absurd (by decide) c0) (fun _ => ?_)
      refine lv_aload_n hx hb dX8_figures_93 rfl (lv_at hl 2 rfl) ?_
      refine lv_iconst (v := 0) hx hb dX8_figures_94 (by decide) ?_
      refine va_put (D := (dC, dI)) (ci := 6) (v := .int 0) (ty := .boolean) (C := RX8) (T := TX8) (N := 33) hx hb hts iX8 tyX8 tyX8_ok nmX8 hown hK hP hD hS 0 rfl rfl 9 (by decide) (hts (.fieldLink RX8 79 "NeighboursMarkModel" "well" "Z") (vm_at 1 rfl)) (fun _ h9 => h9) rfl (tyX8_ok 9 (by decide)) rfl rfl (Nat.le_of_ble_eq_true rfl) dX8_figures_95 (fun H locs hP hD hS => ?_)
      have hP : va_P (dC, dI) vwCl [(h0, .inr (6, [.ref r_refused, .ref r_now, .ref r_then, .ref r_before, .ref r_asIs, .int i_kept, .ref r_tape, .int i_taped, .int i_at, .int 0, .ref r_begins, .ref r_kinds, .int i_sort, .ref r_field, .ref r_willTeach, .ref r_isBack, .ref r_told, .ref r_bestSeats, .ref r_firstSeats, .int i_bestPass, .int i_bestAll, .int i_leastAll, .int i_fits, .int i_mayBeForged, .int i_restMany, .int i_restAll, .int i_restMost, .int i_mostAll, .ref r_restLearn, .ref r_marksNow, .ref r_row, .int i_rows, .int i_seed])), (r_tape, .inl (cI, 64, .inl tf))] H := hP
      have hD : va_D A [(h0, .inr (6, [.ref r_refused, .ref r_now, .ref r_then, .ref r_before, .ref r_asIs, .int i_kept, .ref r_tape, .int i_taped, .int i_at, .int 0, .ref r_begins, .ref r_kinds, .int i_sort, .ref r_field, .ref r_willTeach, .ref r_isBack, .ref r_told, .ref r_bestSeats, .ref r_firstSeats, .int i_bestPass, .int i_bestAll, .int i_leastAll, .int i_fits, .int i_mayBeForged, .int i_restMany, .int i_restAll, .int i_restMost, .int i_mostAll, .ref r_restLearn, .ref r_marksNow, .ref r_row, .int i_rows, .int i_seed])), (r_tape, .inl (cI, 64, .inl tf))] := hD
      refine lv_iload_n hx hb dX8_figures_98 rfl (lv_at hl 1 rfl) ?_
      exact vx_iret (u := ((fun k => ([i_at, 0] : List Int32).getD k 0), (fun k => ([] : List (Nat → Int32)).getD k (fun _ => 0)))) hx hb hr hlocks hK hP hD hS [0, 1] rfl (by decide) ⟨(by decide), (show 0 ≤ i_at.toInt ∧ i_at.toInt ≤ 64 from ⟨by omega, by omega⟩), (show 0 ≤ (0 : Int32).toInt ∧ (0 : Int32).toInt ≤ 1 by decide), (show Fig2 tf i_taped.toInt i_well.toInt i_at.toInt 0 i_at.toInt 0 from (by unfold Fig2; omega)), trivial⟩ dX8_figures_99
    · have c2 : i_at.toInt < i_taped.toInt := vy_nle c2
      refine lv_aload_n hx hb dX8_figures_27 rfl (lv_at hl 2 rfl) ?_
      refine va_get (D := (dC, dI)) (ci := 6) (v := .ref r_tape) (C := RX8) (T := TX8) (N := 33) hx hb hts iX8 hown hK hP 0 rfl rfl 6 (by decide) (hts (.fieldLink RX8 25 "NeighboursMarkModel" "tape" "[I") (vm_at 4 rfl)) (fun _ h9 => h9) rfl dX8_figures_28 ?_
      refine lv_aload_n hx hb dX8_figures_31 rfl (lv_at hl 2 rfl) ?_
      refine va_get (D := (dC, dI)) (ci := 6) (v := .int i_at) (C := RX8) (T := TX8) (N := 33) hx hb hts iX8 hown hK hP 0 rfl rfl 8 (by decide) (hts (.fieldLink RX8 82 "NeighboursMarkModel" "at" "I") (vm_at 2 rfl)) (fun _ h9 => h9) rfl dX8_figures_32 ?_
      refine va_iald hx hb hK hP 1 0 rfl rfl (vp_in_iff.mpr ⟨by omega, by omega⟩) dX8_figures_35 ?_
      refine lv_topi (fun x3 ex3 => ?_)
      have fx3 : x3.toInt = (tf i_at.toInt.toNat).toInt := by rw [ex3]; show (tf i_at.toInt.toNat).toInt = _; rfl
      refine lv_bipush (v := 48) hx hb dX8_figures_36 (by decide) ?_
      refine lv_icmp_lt (tgt := 89) hx hb dX8_figures_38 (by decide) (fun c4 => ?_) (fun c4 => ?_)
      · have c4 : x3.toInt < 48 := vy_lt c4
        refine lv_iload_n hx hb dX8_figures_89 rfl (lv_at hl 0 rfl) ?_
        refine lv_if_ne (tgt := 98) hx hb dX8_figures_90 (by decide) (fun c0 => absurd (by decide) c0) (fun _ => ?_)
        refine lv_aload_n hx hb dX8_figures_93 rfl (lv_at hl 2 rfl) ?_
        refine lv_iconst (v := 0) hx hb dX8_figures_94 (by decide) ?_
        refine va_put (D := (dC, dI)) (ci := 6) (v := .int 0) (ty := .boolean) (C := RX8) (T := TX8) (N := 33) hx hb hts iX8 tyX8 tyX8_ok nmX8 hown hK hP hD hS 0 rfl rfl 9 (by decide) (hts (.fieldLink RX8 79 "NeighboursMarkModel" "well" "Z") (vm_at 1 rfl)) (fun _ h9 => h9) rfl (tyX8_ok 9 (by decide)) rfl rfl (Nat.le_of_ble_eq_true rfl) dX8_figures_95 (fun H locs hP hD hS => ?_)
        have hP : va_P (dC, dI) vwCl [(h0, .inr (6, [.ref r_refused, .ref r_now, .ref r_then, .ref r_before, .ref r_asIs, .int i_kept, .ref r_tape, .int i_taped, .int i_at, .int 0, .ref r_begins, .ref r_kinds, .int i_sort, .ref r_field, .ref r_willTeach, .ref r_isBack, .ref r_told, .ref r_bestSeats, .ref r_firstSeats, .int i_bestPass, .int i_bestAll, .int i_leastAll, .int i_fits, .int i_mayBeForged, .int i_restMany, .int i_restAll, .int i_restMost, .int i_mostAll, .ref r_restLearn, .ref r_marksNow, .ref r_row, .int i_rows, .int i_seed])), (r_tape, .inl (cI, 64, .inl tf))] H := hP
        have hD : va_D A [(h0, .inr (6, [.ref r_refused, .ref r_now, .ref r_then, .ref r_before, .ref r_asIs, .int i_kept, .ref r_tape, .int i_taped, .int i_at, .int 0, .ref r_begins, .ref r_kinds, .int i_sort, .ref r_field, .ref r_willTeach, .ref r_isBack, .ref r_told, .ref r_bestSeats, .ref r_firstSeats, .int i_bestPass, .int i_bestAll, .int i_leastAll, .int i_fits, .int i_mayBeForged, .int i_restMany, .int i_restAll, .int i_restMost, .int i_mostAll, .ref r_restLearn, .ref r_marksNow, .ref r_row, .int i_rows, .int i_seed])), (r_tape, .inl (cI, 64, .inl tf))] := hD
        refine lv_iload_n hx hb dX8_figures_98 rfl (lv_at hl 1 rfl) ?_
        exact vx_iret (u := ((fun k => ([i_at, 0] : List Int32).getD k 0), (fun k => ([] : List (Nat → Int32)).getD k (fun _ => 0)))) hx hb hr hlocks hK hP hD hS [0, 1] rfl (by decide) ⟨(by decide), (show 0 ≤ i_at.toInt ∧ i_at.toInt ≤ 64 from ⟨by omega, by omega⟩), (show 0 ≤ (0 : Int32).toInt ∧ (0 : Int32).toInt ≤ 1 by decide), (show Fig2 tf i_taped.toInt i_well.toInt i_at.toInt 0 i_at.toInt 0 from (by unfold Fig2; omega)), trivial⟩ dX8_figures_99
      · have c4 : x3.toInt ≥ 48 := vy_nlt c4
        refine lv_aload_n hx hb dX8_figures_41 rfl (lv_at hl 2 rfl) ?_
        refine va_get (D := (dC, dI)) (ci := 6) (v := .ref r_tape) (C := RX8) (T := TX8) (N := 33) hx hb hts iX8 hown hK hP 0 rfl rfl 6 (by decide) (hts (.fieldLink RX8 25 "NeighboursMarkModel" "tape" "[I") (vm_at 4 rfl)) (fun _ h9 => h9) rfl dX8_figures_42 ?_
        refine lv_aload_n hx hb dX8_figures_45 rfl (lv_at hl 2 rfl) ?_
        refine va_get (D := (dC, dI)) (ci := 6) (v := .int i_at) (C := RX8) (T := TX8) (N := 33) hx hb hts iX8 hown hK hP 0 rfl rfl 8 (by decide) (hts (.fieldLink RX8 82 "NeighboursMarkModel" "at" "I") (vm_at 2 rfl)) (fun _ h9 => h9) rfl dX8_figures_46 ?_
        refine va_iald hx hb hK hP 1 0 rfl rfl (vp_in_iff.mpr ⟨by omega, by omega⟩) dX8_figures_49 ?_
        refine lv_topi (fun x5 ex5 => ?_)
        have ex5 : x3 = x5 := (ex5.trans ex3.symm).symm
        subst ex5
        refine lv_bipush (v := 57) hx hb dX8_figures_50 (by decide) ?_
        refine lv_icmp_gt (tgt := 89) hx hb dX8_figures_52 (by decide) (fun c6 => ?_) (fun c6 => ?_)
        · have c6 : x3.toInt > 57 := vy_lt c6
          refine lv_iload_n hx hb dX8_figures_89 rfl (lv_at hl 0 rfl) ?_
          refine lv_if_ne (tgt := 98) hx hb dX8_figures_90 (by decide) (fun c0 => absurd (by decide) c0) (fun _ => ?_)
          refine lv_aload_n hx hb dX8_figures_93 rfl (lv_at hl 2 rfl) ?_
          refine lv_iconst (v := 0) hx hb dX8_figures_94 (by decide) ?_
          refine va_put (D := (dC, dI)) (ci := 6) (v := .int 0) (ty := .boolean) (C := RX8) (T := TX8) (N := 33) hx hb hts iX8 tyX8 tyX8_ok nmX8 hown hK hP hD hS 0 rfl rfl 9 (by decide) (hts (.fieldLink RX8 79 "NeighboursMarkModel" "well" "Z") (vm_at 1 rfl)) (fun _ h9 => h9) rfl (tyX8_ok 9 (by decide)) rfl rfl (Nat.le_of_ble_eq_true rfl) dX8_figures_95 (fun H locs hP hD hS => ?_)
          have hP : va_P (dC, dI) vwCl [(h0, .inr (6, [.ref r_refused, .ref r_now, .ref r_then, .ref r_before, .ref r_asIs, .int i_kept, .ref r_tape, .int i_taped, .int i_at, .int 0, .ref r_begins, .ref r_kinds, .int i_sort, .ref r_field, .ref r_willTeach, .ref r_isBack, .ref r_told, .ref r_bestSeats, .ref r_firstSeats, .int i_bestPass, .int i_bestAll, .int i_leastAll, .int i_fits, .int i_mayBeForged, .int i_restMany, .int i_restAll, .int i_restMost, .int i_mostAll, .ref r_restLearn, .ref r_marksNow, .ref r_row, .int i_rows, .int i_seed])), (r_tape, .inl (cI, 64, .inl tf))] H := hP
          have hD : va_D A [(h0, .inr (6, [.ref r_refused, .ref r_now, .ref r_then, .ref r_before, .ref r_asIs, .int i_kept, .ref r_tape, .int i_taped, .int i_at, .int 0, .ref r_begins, .ref r_kinds, .int i_sort, .ref r_field, .ref r_willTeach, .ref r_isBack, .ref r_told, .ref r_bestSeats, .ref r_firstSeats, .int i_bestPass, .int i_bestAll, .int i_leastAll, .int i_fits, .int i_mayBeForged, .int i_restMany, .int i_restAll, .int i_restMost, .int i_mostAll, .ref r_restLearn, .ref r_marksNow, .ref r_row, .int i_rows, .int i_seed])), (r_tape, .inl (cI, 64, .inl tf))] := hD
          refine lv_iload_n hx hb dX8_figures_98 rfl (lv_at hl 1 rfl) ?_
          exact vx_iret (u := ((fun k => ([i_at, 0] : List Int32).getD k 0), (fun k => ([] : List (Nat → Int32)).getD k (fun _ => 0)))) hx hb hr hlocks hK hP hD hS [0, 1] rfl (by decide) ⟨(by decide), (show 0 ≤ i_at.toInt ∧ i_at.toInt ≤ 64 from ⟨by omega, by omega⟩), (show 0 ≤ (0 : Int32).toInt ∧ (0 : Int32).toInt ≤ 1 by decide), (show Fig2 tf i_taped.toInt i_well.toInt i_at.toInt 0 i_at.toInt 0 from (by unfold Fig2; omega)), trivial⟩ dX8_figures_99
        · have c6 : x3.toInt ≤ 57 := vy_nlt c6
          refine lv_bipush (v := 10) hx hb dX8_figures_55 (by decide) ?_
          refine lv_iload_n hx hb dX8_figures_57 rfl (lv_at hl 1 rfl) ?_
          refine lv_imul hx hb dX8_figures_58 ?_
          refine lv_topi (fun x7 ex7 => ?_)
          have ex7 : 0 = x7 := (ex7.trans (by decide)).symm
          subst ex7
          refine lv_aload_n hx hb dX8_figures_59 rfl (lv_at hl 2 rfl) ?_
          refine va_get (D := (dC, dI)) (ci := 6) (v := .ref r_tape) (C := RX8) (T := TX8) (N := 33) hx hb hts iX8 hown hK hP 0 rfl rfl 6 (by decide) (hts (.fieldLink RX8 25 "NeighboursMarkModel" "tape" "[I") (vm_at 4 rfl)) (fun _ h9 => h9) rfl dX8_figures_60 ?_
          refine lv_aload_n hx hb dX8_figures_63 rfl (lv_at hl 2 rfl) ?_
          refine va_get (D := (dC, dI)) (ci := 6) (v := .int i_at) (C := RX8) (T := TX8) (N := 33) hx hb hts iX8 hown hK hP 0 rfl rfl 8 (by decide) (hts (.fieldLink RX8 82 "NeighboursMarkModel" "at" "I") (vm_at 2 rfl)) (fun _ h9 => h9) rfl dX8_figures_64 ?_
          refine va_iald hx hb hK hP 1 0 rfl rfl (vp_in_iff.mpr ⟨by omega, by omega⟩) dX8_figures_67 ?_
          refine lv_topi (fun x8 ex8 => ?_)
          have ex8 : x3 = x8 := (ex8.trans ex3.symm).symm
          subst ex8
          refine lv_iadd hx hb dX8_figures_68 ?_
          have f9 := vy_add (x := 0) (y := x3) (show ((0 : Int32)).toInt = 0 by decide) rfl (by omega) (by omega)
          refine lv_bipush (v := 48) hx hb dX8_figures_69 (by decide) ?_
          refine lv_isub hx hb dX8_figures_71 ?_
          refine lv_topi (fun x10 ex10 => ?_)
          have fx10 : x10.toInt = (0 + x3).toInt - 48 := by rw [ex10]; exact vy_sub (x := (0 + x3)) (y := 48) rfl (show ((48 : Int32)).toInt = 48 by decide) (by omega) (by omega)
          refine lv_istore_n (lv' := [(2, .int x10), (3, .int 0), (0, .ref h0), (1, .int 2)]) hx hb dX8_figures_72 rfl hl (by decide) rfl (fun ls hl => ?_)
          refine lv_aload_n hx hb dX8_figures_73 rfl (lv_at hl 2 rfl) ?_
          refine lv_dup hx hb dX8_figures_74 rfl ?_
          refine va_get (D := (dC, dI)) (ci := 6) (v := .int i_at) (C := RX8) (T := TX8) (N := 33) hx hb hts iX8 hown hK hP 0 rfl rfl 8 (by decide) (hts (.fieldLink RX8 82 "NeighboursMarkModel" "at" "I") (vm_at 2 rfl)) (fun _ h9 => h9) rfl dX8_figures_75 ?_
          refine lv_iconst (v := 1) hx hb dX8_figures_78 (by decide) ?_
          refine lv_iadd hx hb dX8_figures_79 ?_
          have f11 := vy_add (x := i_at) (y := 1) rfl (show ((1 : Int32)).toInt = 1 by decide) (by omega) (by omega)
          refine va_put (D := (dC, dI)) (ci := 6) (v := .int (i_at + 1)) (ty := .int) (C := RX8) (T := TX8) (N := 33) hx hb hts iX8 tyX8 tyX8_ok nmX8 hown hK hP hD hS 0 rfl rfl 8 (by decide) (hts (.fieldLink RX8 82 "NeighboursMarkModel" "at" "I") (vm_at 2 rfl)) (fun _ h9 => h9) rfl (tyX8_ok 8 (by decide)) rfl rfl (Nat.le_of_ble_eq_true rfl) dX8_figures_80 (fun H locs hP hD hS => ?_)
          have hP : va_P (dC, dI) vwCl [(h0, .inr (6, [.ref r_refused, .ref r_now, .ref r_then, .ref r_before, .ref r_asIs, .int i_kept, .ref r_tape, .int i_taped, .int (i_at + 1), .int i_well, .ref r_begins, .ref r_kinds, .int i_sort, .ref r_field, .ref r_willTeach, .ref r_isBack, .ref r_told, .ref r_bestSeats, .ref r_firstSeats, .int i_bestPass, .int i_bestAll, .int i_leastAll, .int i_fits, .int i_mayBeForged, .int i_restMany, .int i_restAll, .int i_restMost, .int i_mostAll, .ref r_restLearn, .ref r_marksNow, .ref r_row, .int i_rows, .int i_seed])), (r_tape, .inl (cI, 64, .inl tf))] H := hP
          have hD : va_D A [(h0, .inr (6, [.ref r_refused, .ref r_now, .ref r_then, .ref r_before, .ref r_asIs, .int i_kept, .ref r_tape, .int i_taped, .int (i_at + 1), .int i_well, .ref r_begins, .ref r_kinds, .int i_sort, .ref r_field, .ref r_willTeach, .ref r_isBack, .ref r_told, .ref r_bestSeats, .ref r_firstSeats, .int i_bestPass, .int i_bestAll, .int i_leastAll, .int i_fits, .int i_mayBeForged, .int i_restMany, .int i_restAll, .int i_restMost, .int i_mostAll, .ref r_restLearn, .ref r_marksNow, .ref r_row, .int i_rows, .int i_seed])), (r_tape, .inl (cI, 64, .inl tf))] := hD
          refine lv_iinc (v := 1) (lv' := [(3, .int 1), (2, .int x10), (0, .ref h0), (1, .int 2)]) hx hb dX8_figures_83 hl (k := 1) rfl (by decide) (by decide) rfl (fun ls hl => ?_)
          refine lv_goto (tgt := 4) hx hb dX8_figures_86 (by decide) ?_
          refine lv_aload_n hx hb dX8_figures_4 rfl (lv_at hl 2 rfl) ?_
          refine va_get (D := (dC, dI)) (ci := 6) (v := .int i_well) (C := RX8) (T := TX8) (N := 33) hx hb hts iX8 hown hK hP 0 rfl rfl 9 (by decide) (hts (.fieldLink RX8 79 "NeighboursMarkModel" "well" "Z") (vm_at 1 rfl)) (fun _ h9 => h9) rfl dX8_figures_5 ?_
          refine lv_if_eq (tgt := 89) hx hb dX8_figures_8 (by decide) (fun c12 => by exfalso; have h9 : i_well.toInt = 0 := vy_eq c12; omega) (fun c12 => ?_)
          have c12 : i_well.toInt ≠ 0 := vy_ne c12
          refine lv_iload_n hx hb dX8_figures_11 rfl (lv_at hl 0 rfl) ?_
          refine lv_iload_n hx hb dX8_figures_12 rfl (lv_at hl 3 rfl) ?_
          refine lv_icmp_ge (tgt := 89) hx hb dX8_figures_13 (by decide) (fun c0 => absurd c0 (by decide)) (fun _ => ?_)
          refine lv_aload_n hx hb dX8_figures_16 rfl (lv_at hl 2 rfl) ?_
          refine va_get (D := (dC, dI)) (ci := 6) (v := .int (i_at + 1)) (C := RX8) (T := TX8) (N := 33) hx hb hts iX8 hown hK hP 0 rfl rfl 8 (by decide) (hts (.fieldLink RX8 82 "NeighboursMarkModel" "at" "I") (vm_at 2 rfl)) (fun _ h9 => h9) rfl dX8_figures_17 ?_
          refine lv_aload_n hx hb dX8_figures_20 rfl (lv_at hl 2 rfl) ?_
          refine va_get (D := (dC, dI)) (ci := 6) (v := .int i_taped) (C := RX8) (T := TX8) (N := 33) hx hb hts iX8 hown hK hP 0 rfl rfl 7 (by decide) (hts (.fieldLink RX8 75 "NeighboursMarkModel" "taped" "I") (vm_at 3 rfl)) (fun _ h9 => h9) rfl dX8_figures_21 ?_
          refine lv_icmp_ge (tgt := 89) hx hb dX8_figures_24 (by decide) (fun c13 => ?_) (fun c13 => ?_)
          · have c13 : (i_at + 1).toInt ≥ i_taped.toInt := vy_le c13
            refine lv_iload_n hx hb dX8_figures_89 rfl (lv_at hl 0 rfl) ?_
            refine lv_if_ne (tgt := 98) hx hb dX8_figures_90 (by decide) (fun _ => ?_) (fun c0 => absurd c0 (by decide))
            refine lv_iload_n hx hb dX8_figures_98 rfl (lv_at hl 1 rfl) ?_
            exact vx_iret (u := ((fun k => ([(i_at + 1), i_well] : List Int32).getD k 0), (fun k => ([] : List (Nat → Int32)).getD k (fun _ => 0)))) hx hb hr hlocks hK hP hD hS [0, 1] rfl (by decide) ⟨⟨by omega, by omega⟩, (show 0 ≤ (i_at + 1).toInt ∧ (i_at + 1).toInt ≤ 64 from ⟨by omega, by omega⟩), (show 0 ≤ i_well.toInt ∧ i_well.toInt ≤ 1 from ⟨by omega, by omega⟩), (show Fig2 tf i_taped.toInt i_well.toInt i_at.toInt x10.toInt (i_at + 1).toInt i_well.toInt from (by unfold Fig2; omega)), trivial⟩ dX8_figures_99
          · have c13 : (i_at + 1).toInt < i_taped.toInt := vy_nle c13
            refine lv_aload_n hx hb dX8_figures_27 rfl (lv_at hl 2 rfl) ?_
            refine va_get (D := (dC, dI)) (ci := 6) (v := .ref r_tape) (C := RX8) (T := TX8) (N := 33) hx hb hts iX8 hown hK hP 0 rfl rfl 6 (by decide) (hts (.fieldLink RX8 25 "NeighboursMarkModel" "tape" "[I") (vm_at 4 rfl)) (fun _ h9 => h9) rfl dX8_figures_28 ?_
            refine lv_aload_n hx hb dX8_figures_31 rfl (lv_at hl 2 rfl) ?_
            refine va_get (D := (dC, dI)) (ci := 6) (v := .int (i_at + 1)) (C := RX8) (T := TX8) (N := 33) hx hb hts iX8 hown hK hP 0 rfl rfl 8 (by decide) (hts (.fieldLink RX8 82 "NeighboursMarkModel" "at" "I") (vm_at 2 rfl)) (fun _ h9 => h9) rfl dX8_figures_32 ?_
            refine va_iald hx hb hK hP 1 0 rfl rfl (vp_in_iff.mpr ⟨by omega, by omega⟩) dX8_figures_35 ?_
            refine lv_topi (fun x14 ex14 => ?_)
            have fx14 : x14.toInt = (tf (i_at.toInt + 1).toNat).toInt := by rw [ex14]; show (tf (i_at + 1).toInt.toNat).toInt = _; rw [f11]
            refine lv_bipush (v := 48) hx hb dX8_figures_36 (by decide) ?_
            refine lv_icmp_lt (tgt := 89) hx hb dX8_figures_38 (by decide) (fun c15 => ?_) (fun c15 => ?_)
            · have c15 : x14.toInt < 48 := vy_lt c15
              refine lv_iload_n hx hb dX8_figures_89 rfl (lv_at hl 0 rfl) ?_
              refine lv_if_ne (tgt := 98) hx hb dX8_figures_90 (by decide) (fun _ => ?_) (fun c0 => absurd c0 (by decide))
              refine lv_iload_n hx hb dX8_figures_98 rfl (lv_at hl 1 rfl) ?_
              exact vx_iret (u := ((fun k => ([(i_at + 1), i_well] : List Int32).getD k 0), (fun k => ([] : List (Nat → Int32)).getD k (fun _ => 0)))) hx hb hr hlocks hK hP hD hS [0, 1] rfl (by decide) ⟨⟨by omega, by omega⟩, (show 0 ≤ (i_at + 1).toInt ∧ (i_at + 1).toInt ≤ 64 from ⟨by omega, by omega⟩), (show 0 ≤ i_well.toInt ∧ i_well.toInt ≤ 1 from ⟨by omega, by omega⟩), (show Fig2 tf i_taped.toInt i_well.toInt i_at.toInt x10.toInt (i_at + 1).toInt i_well.toInt from (by unfold Fig2; omega)), trivial⟩ dX8_figures_99
            · have c15 : x14.toInt ≥ 48 := vy_nlt c15
              refine lv_aload_n hx hb dX8_figures_41 rfl (lv_at hl 2 rfl) ?_
              refine va_get (D := (dC, dI)) (ci := 6) (v := .ref r_tape) (C := RX8) (T := TX8) (N := 33) hx hb hts iX8 hown hK hP 0 rfl rfl 6 (by decide) (hts (.fieldLink RX8 25 "NeighboursMarkModel" "tape" "[I") (vm_at 4 rfl)) (fun _ h9 => h9) rfl dX8_figures_42 ?_
              refine lv_aload_n hx hb dX8_figures_45 rfl (lv_at hl 2 rfl) ?_
              refine va_get (D := (dC, dI)) (ci := 6) (v := .int (i_at + 1)) (C := RX8) (T := TX8) (N := 33) hx hb hts iX8 hown hK hP 0 rfl rfl 8 (by decide) (hts (.fieldLink RX8 82 "NeighboursMarkModel" "at" "I") (vm_at 2 rfl)) (fun _ h9 => h9) rfl dX8_figures_46 ?_
              refine va_iald hx hb hK hP 1 0 rfl rfl (vp_in_iff.mpr ⟨by omega, by omega⟩) dX8_figures_49 ?_
              refine lv_topi (fun x16 ex16 => ?_)
              have ex16 : x14 = x16 := (ex16.trans ex14.symm).symm
              subst ex16
              refine lv_bipush (v := 57) hx hb dX8_figures_50 (by decide) ?_
              refine lv_icmp_gt (tgt := 89) hx hb dX8_figures_52 (by decide) (fun c17 => ?_) (fun c17 => ?_)
              · have c17 : x14.toInt > 57 := vy_lt c17
                refine lv_iload_n hx hb dX8_figures_89 rfl (lv_at hl 0 rfl) ?_
                refine lv_if_ne (tgt := 98) hx hb dX8_figures_90 (by decide) (fun _ => ?_) (fun c0 => absurd c0 (by decide))
                refine lv_iload_n hx hb dX8_figures_98 rfl (lv_at hl 1 rfl) ?_
                exact vx_iret (u := ((fun k => ([(i_at + 1), i_well] : List Int32).getD k 0), (fun k => ([] : List (Nat → Int32)).getD k (fun _ => 0)))) hx hb hr hlocks hK hP hD hS [0, 1] rfl (by decide) ⟨⟨by omega, by omega⟩, (show 0 ≤ (i_at + 1).toInt ∧ (i_at + 1).toInt ≤ 64 from ⟨by omega, by omega⟩), (show 0 ≤ i_well.toInt ∧ i_well.toInt ≤ 1 from ⟨by omega, by omega⟩), (show Fig2 tf i_taped.toInt i_well.toInt i_at.toInt x10.toInt (i_at + 1).toInt i_well.toInt from (by unfold Fig2; omega)), trivial⟩ dX8_figures_99
              · have c17 : x14.toInt ≤ 57 := vy_nlt c17
                refine lv_bipush (v := 10) hx hb dX8_figures_55 (by decide) ?_
                refine lv_iload_n hx hb dX8_figures_57 rfl (lv_at hl 1 rfl) ?_
                refine lv_imul hx hb dX8_figures_58 ?_
                have f18 := vy_mul (x := 10) (y := x10) (show ((10 : Int32)).toInt = 10 by decide) (by omega) (by omega)
                refine lv_aload_n hx hb dX8_figures_59 rfl (lv_at hl 2 rfl) ?_
                refine va_get (D := (dC, dI)) (ci := 6) (v := .ref r_tape) (C := RX8) (T := TX8) (N := 33) hx hb hts iX8 hown hK hP 0 rfl rfl 6 (by decide) (hts (.fieldLink RX8 25 "NeighboursMarkModel" "tape" "[I") (vm_at 4 rfl)) (fun _ h9 => h9) rfl dX8_figures_60 ?_
                refine lv_aload_n hx hb dX8_figures_63 rfl (lv_at hl 2 rfl) ?_
                refine va_get (D := (dC, dI)) (ci := 6) (v := .int (i_at + 1)) (C := RX8) (T := TX8) (N := 33) hx hb hts iX8 hown hK hP 0 rfl rfl 8 (by decide) (hts (.fieldLink RX8 82 "NeighboursMarkModel" "at" "I") (vm_at 2 rfl)) (fun _ h9 => h9) rfl dX8_figures_64 ?_
                refine va_iald hx hb hK hP 1 0 rfl rfl (vp_in_iff.mpr ⟨by omega, by omega⟩) dX8_figures_67 ?_
                refine lv_topi (fun x19 ex19 => ?_)
                have ex19 : x14 = x19 := (ex19.trans ex14.symm).symm
                subst ex19
                refine lv_iadd hx hb dX8_figures_68 ?_
                have f20 := vy_add (x := (10 * x10)) (y := x14) rfl rfl (by omega) (by omega)
                refine lv_bipush (v := 48) hx hb dX8_figures_69 (by decide) ?_
                refine lv_isub hx hb dX8_figures_71 ?_
                refine lv_topi (fun x21 ex21 => ?_)
                have fx21 : x21.toInt = ((10 * x10) + x14).toInt - 48 := by rw [ex21]; exact vy_sub (x := ((10 * x10) + x14)) (y := 48) rfl (show ((48 : Int32)).toInt = 48 by decide) (by omega) (by omega)
                refine lv_istore_n (lv' := [(2, .int x21), (3, .int 1), (0, .ref h0), (1, .int 2)]) hx hb dX8_figures_72 rfl hl (by decide) rfl (fun ls hl => ?_)
                refine lv_aload_n hx hb dX8_figures_73 rfl (lv_at hl 2 rfl) ?_
                refine lv_dup hx hb dX8_figures_74 rfl ?_
                refine va_get (D := (dC, dI)) (ci := 6) (v := .int (i_at + 1)) (C := RX8) (T := TX8) (N := 33) hx hb hts iX8 hown hK hP 0 rfl rfl 8 (by decide) (hts (.fieldLink RX8 82 "NeighboursMarkModel" "at" "I") (vm_at 2 rfl)) (fun _ h9 => h9) rfl dX8_figures_75 ?_
                refine lv_iconst (v := 1) hx hb dX8_figures_78 (by decide) ?_
                refine lv_iadd hx hb dX8_figures_79 ?_
                have f22 := vy_add (x := (i_at + 1)) (y := 1) rfl (show ((1 : Int32)).toInt = 1 by decide) (by omega) (by omega)
                have f23 := show ((i_at + 1) + 1).toInt = i_at.toInt + 2 by omega
                refine va_put (D := (dC, dI)) (ci := 6) (v := .int ((i_at + 1) + 1)) (ty := .int) (C := RX8) (T := TX8) (N := 33) hx hb hts iX8 tyX8 tyX8_ok nmX8 hown hK hP hD hS 0 rfl rfl 8 (by decide) (hts (.fieldLink RX8 82 "NeighboursMarkModel" "at" "I") (vm_at 2 rfl)) (fun _ h9 => h9) rfl (tyX8_ok 8 (by decide)) rfl rfl (Nat.le_of_ble_eq_true rfl) dX8_figures_80 (fun H locs hP hD hS => ?_)
                have hP : va_P (dC, dI) vwCl [(h0, .inr (6, [.ref r_refused, .ref r_now, .ref r_then, .ref r_before, .ref r_asIs, .int i_kept, .ref r_tape, .int i_taped, .int ((i_at + 1) + 1), .int i_well, .ref r_begins, .ref r_kinds, .int i_sort, .ref r_field, .ref r_willTeach, .ref r_isBack, .ref r_told, .ref r_bestSeats, .ref r_firstSeats, .int i_bestPass, .int i_bestAll, .int i_leastAll, .int i_fits, .int i_mayBeForged, .int i_restMany, .int i_restAll, .int i_restMost, .int i_mostAll, .ref r_restLearn, .ref r_marksNow, .ref r_row, .int i_rows, .int i_seed])), (r_tape, .inl (cI, 64, .inl tf))] H := hP
                have hD : va_D A [(h0, .inr (6, [.ref r_refused, .ref r_now, .ref r_then, .ref r_before, .ref r_asIs, .int i_kept, .ref r_tape, .int i_taped, .int ((i_at + 1) + 1), .int i_well, .ref r_begins, .ref r_kinds, .int i_sort, .ref r_field, .ref r_willTeach, .ref r_isBack, .ref r_told, .ref r_bestSeats, .ref r_firstSeats, .int i_bestPass, .int i_bestAll, .int i_leastAll, .int i_fits, .int i_mayBeForged, .int i_restMany, .int i_restAll, .int i_restMost, .int i_mostAll, .ref r_restLearn, .ref r_marksNow, .ref r_row, .int i_rows, .int i_seed])), (r_tape, .inl (cI, 64, .inl tf))] := hD
                refine lv_iinc (v := 2) (lv' := [(3, .int 2), (2, .int x21), (0, .ref h0), (1, .int 2)]) hx hb dX8_figures_83 hl (k := 1) rfl (by decide) (by decide) rfl (fun ls hl => ?_)
                refine lv_goto (tgt := 4) hx hb dX8_figures_86 (by decide) ?_
                refine lv_aload_n hx hb dX8_figures_4 rfl (lv_at hl 2 rfl) ?_
                refine va_get (D := (dC, dI)) (ci := 6) (v := .int i_well) (C := RX8) (T := TX8) (N := 33) hx hb hts iX8 hown hK hP 0 rfl rfl 9 (by decide) (hts (.fieldLink RX8 79 "NeighboursMarkModel" "well" "Z") (vm_at 1 rfl)) (fun _ h9 => h9) rfl dX8_figures_5 ?_
                refine lv_if_eq (tgt := 89) hx hb dX8_figures_8 (by decide) (fun c24 => by exfalso; have h9 : i_well.toInt = 0 := vy_eq c24; omega) (fun c24 => ?_)
                have c24 : i_well.toInt ≠ 0 := vy_ne c24
                refine lv_iload_n hx hb dX8_figures_11 rfl (lv_at hl 0 rfl) ?_
                refine lv_iload_n hx hb dX8_figures_12 rfl (lv_at hl 3 rfl) ?_
                refine lv_icmp_ge (tgt := 89) hx hb dX8_figures_13 (by decide) (fun _ => ?_) (fun c0 => absurd (by decide) c0)
                refine lv_iload_n hx hb dX8_figures_89 rfl (lv_at hl 0 rfl) ?_
                refine lv_if_ne (tgt := 98) hx hb dX8_figures_90 (by decide) (fun _ => ?_) (fun c0 => absurd c0 (by decide))
                refine lv_iload_n hx hb dX8_figures_98 rfl (lv_at hl 1 rfl) ?_
                exact vx_iret (u := ((fun k => ([((i_at + 1) + 1), i_well] : List Int32).getD k 0), (fun k => ([] : List (Nat → Int32)).getD k (fun _ => 0)))) hx hb hr hlocks hK hP hD hS [0, 1] rfl (by decide) ⟨⟨by omega, by omega⟩, (show 0 ≤ ((i_at + 1) + 1).toInt ∧ ((i_at + 1) + 1).toInt ≤ 64 from ⟨by omega, by omega⟩), (show 0 ≤ i_well.toInt ∧ i_well.toInt ≤ 1 from ⟨by omega, by omega⟩), (show Fig2 tf i_taped.toInt i_well.toInt i_at.toInt x21.toInt ((i_at + 1) + 1).toInt i_well.toInt from (by unfold Fig2; omega)), trivial⟩ dX8_figures_99
