theorem zz_m_letter_0 (a : Int32) (h0 : (0 : Int32) ≤ a) (h1 : (255 : Int32) < a) : ((-6) : Int32) = f_letter a := by
  have e0 : ((-6) : Int32).toInt = -6 := by decide
  have e1 : ((-4) : Int32).toInt = -4 := by decide
  have e2 : (0 : Int32).toInt = 0 := by decide
  have e3 : (1 : Int32).toInt = 1 := by decide
  have e4 : (32 : Int32).toInt = 32 := by decide
  have e5 : (255 : Int32).toInt = 255 := by decide
  unfold f_letter
  (repeat' split) <;> first | rfl | (exfalso; simp only [Int32.lt_iff_toInt_lt, Int32.le_iff_toInt_le, ← Int32.toInt_inj, e0, e1, e2, e3, e4, e5] at * <;> omega)
theorem zz_m_letter_1 (a : Int32) (h0 : (0 : Int32) ≤ a) (h1 : ¬ (255 : Int32) < a) : (1 : Int32) = f_letter a := by
  have e0 : ((-6) : Int32).toInt = -6 := by decide
  have e1 : ((-4) : Int32).toInt = -4 := by decide
  have e2 : (0 : Int32).toInt = 0 := by decide
  have e3 : (1 : Int32).toInt = 1 := by decide
  have e4 : (32 : Int32).toInt = 32 := by decide
  have e5 : (255 : Int32).toInt = 255 := by decide
  unfold f_letter
  (repeat' split) <;> first | rfl | (exfalso; simp only [Int32.lt_iff_toInt_lt, Int32.le_iff_toInt_le, ← Int32.toInt_inj, e0, e1, e2, e3, e4, e5] at * <;> omega)
theorem zz_m_letter_2 (a : Int32) (h0 : ¬ (0 : Int32) ≤ a) : ((-4) : Int32) = f_letter a := by
  have e0 : ((-6) : Int32).toInt = -6 := by decide
  have e1 : ((-4) : Int32).toInt = -4 := by decide
  have e2 : (0 : Int32).toInt = 0 := by decide
  have e3 : (1 : Int32).toInt = 1 := by decide
  have e4 : (32 : Int32).toInt = 32 := by decide
  have e5 : (255 : Int32).toInt = 255 := by decide
  unfold f_letter
  (repeat' split) <;> first | rfl | (exfalso; simp only [Int32.lt_iff_toInt_lt, Int32.le_iff_toInt_le, ← Int32.toInt_inj, e0, e1, e2, e3, e4, e5] at * <;> omega)
set_option maxHeartbeats 4000000 in
set_option maxRecDepth 100000 in
theorem m_letter (l : Launch) (dC : Nat → ClassId) (dI : Nat → Nat → Nat) (cI cC cZ : ClassId) (sz : Nat) (h0 r_refused r_now r_then r_before r_asIs r_tape r_begins r_kinds r_field r_willTeach r_isBack r_told r_bestSeats r_firstSeats r_restLearn r_marksNow r_row : Nat) (a : Int32) : Met l yX8_letter wsX8_letter ({ frames := 1, cells := 0, slots := 0, locals := 21 }) (va_Pc [.ref h0, .int a] (vx_B (dC, dI) (vx_T cI cC cZ) sz [(h0, .inr (6, [.ref r_refused, .ref r_now, .ref r_then, .ref r_before, .ref r_asIs, .int 0, .ref r_tape, .int 0, .int 0, .int 0, .ref r_begins, .ref r_kinds, .int 0, .ref r_field, .ref r_willTeach, .ref r_isBack, .ref r_told, .ref r_bestSeats, .ref r_firstSeats, .int 0, .int 0, .int 0, .int 0, .int 0, .int 0, .int 0, .int 0, .int 0, .ref r_restLearn, .ref r_marksNow, .ref r_row, .int 0, .int 0])), (r_refused, .inl (cI, 7, .inl (fun _ => 0))), (r_tape, .inl (cI, 64, .inl (fun _ => 0)))])) (va_Qi (fun (r : Int32) (_ : Unit) => r = f_letter a) (vx_C (dC, dI) (vx_T cI cC cZ) (va_A [(h0, .inr (6, [.ref r_refused, .ref r_now, .ref r_then, .ref r_before, .ref r_asIs, .int 0, .ref r_tape, .int 0, .int 0, .int 0, .ref r_begins, .ref r_kinds, .int 0, .ref r_field, .ref r_willTeach, .ref r_isBack, .ref r_told, .ref r_bestSeats, .ref r_firstSeats, .int 0, .int 0, .int 0, .int 0, .int 0, .int 0, .int 0, .int 0, .int 0, .ref r_restLearn, .ref r_marksNow, .ref r_row, .int 0, .int 0])), (r_refused, .inl (cI, 7, .inl (fun _ => 0))), (r_tape, .inl (cI, 64, .inl (fun _ => 0)))] sz) (fun (u : Unit) => [])) (va_A [(h0, .inr (6, [.ref r_refused, .ref r_now, .ref r_then, .ref r_before, .ref r_asIs, .int 0, .ref r_tape, .int 0, .int 0, .int 0, .ref r_begins, .ref r_kinds, .int 0, .ref r_field, .ref r_willTeach, .ref r_isBack, .ref r_told, .ref r_bestSeats, .ref r_firstSeats, .int 0, .int 0, .int 0, .int 0, .int 0, .int 0, .int 0, .int 0, .int 0, .ref r_restLearn, .ref r_marksNow, .ref r_row, .int 0, .int 0])), (r_refused, .inl (cI, 7, .inl (fun _ => 0))), (r_tape, .inl (cI, 64, .inl (fun _ => 0)))] sz)) 0 0 (va_A [(h0, .inr (6, [.ref r_refused, .ref r_now, .ref r_then, .ref r_before, .ref r_asIs, .int 0, .ref r_tape, .int 0, .int 0, .int 0, .ref r_begins, .ref r_kinds, .int 0, .ref r_field, .ref r_willTeach, .ref r_isBack, .ref r_told, .ref r_bestSeats, .ref r_firstSeats, .int 0, .int 0, .int 0, .int 0, .int 0, .int 0, .int 0, .int 0, .int 0, .ref r_restLearn, .ref r_marksNow, .ref r_row, .int 0, .int 0])), (r_refused, .inl (cI, 7, .inl (fun _ => 0))), (r_tape, .inl (cI, 64, .inl (fun _ => 0)))] sz) := by
  refine Met.ofW (cc := cX8_letter) (maxL := 2) (ret := (some .int)) (by decide) rfl ?_
  intro p e s m args below meth c s₁ B hml hv
  obtain ⟨rfl, hsz, hP, hK, hD0⟩ := hv
  have hx := B.exec
  have hb := B.bytes
  have hr := B.returns
  have hts := atoms_spec (ws := wsX8_letter) B.pre
  have hown : s.vm.findClass RX8 = some m.cls := findClass_of_methodNamed B.named
  have hlocks := B.notSynchronized
  subst hsz
  have hD := hD0.self (sz := s.heap.size)
  generalize hAe : va_A [(h0, .inr (6, [.ref r_refused, .ref r_now, .ref r_then, .ref r_before, .ref r_asIs, .int 0, .ref r_tape, .int 0, .int 0, .int 0, .ref r_begins, .ref r_kinds, .int 0, .ref r_field, .ref r_willTeach, .ref r_isBack, .ref r_told, .ref r_bestSeats, .ref r_firstSeats, .int 0, .int 0, .int 0, .int 0, .int 0, .int 0, .int 0, .int 0, .int 0, .ref r_restLearn, .ref r_marksNow, .ref r_row, .int 0, .int 0])), (r_refused, .inl (cI, 7, .inl (fun _ => 0))), (r_tape, .inl (cI, 64, .inl (fun _ => 0)))] s.heap.size = A at hD ⊢
  have hA : ∀ q : Nat, s.heap.size ≤ q → A q := fun q h => by rw [← hAe]; exact Or.inr h
  have hS : va_S A s.heap s.heap [] := va_S.rf
  have hl := lv_entry ([.ref h0, .int a]) (n := 2) (Nat.le_of_ble_eq_true rfl)
  rw [lg_entry_eq]
  generalize (lg_sl ([.ref h0, .int a]) ++ List.replicate (2 - (lg_sl ([.ref h0, .int a])).length) Slot.unset).toArray = ls at hl ⊢
  have hl : lv_has ls 2 [(0, .ref h0), (1, .int a)] := hl
  have iX8 : ∀ w ∈ u_ws RX8 TX8 33, w ∈ wsX8_letter := by decide +kernel
  refine lv_iload_n hx hb dX8_letter_0 rfl (lv_at hl 1 rfl) ?_
  refine lv_if_ge (tgt := 11) hx hb dX8_letter_1 (by decide) (fun c1 => ?_) (fun c1 => ?_)
  · skip
    refine lv_iload_n hx hb dX8_letter_11 rfl (lv_at hl 1 rfl) ?_
    refine lv_sipush (v := 255) hx hb dX8_letter_12 (by decide) ?_
    refine lv_icmp_gt (tgt := 27) hx hb dX8_letter_15 (by decide) (fun c2 => ?_) (fun c2 => ?_)
    · skip
      refine lv_aload_n hx hb dX8_letter_27 rfl (lv_at hl 0 rfl) ?_
      refine lv_bipush (v := (-6)) hx hb dX8_letter_28 (by decide) ?_
      have hPc := hP.sub (ws' := [(h0, .inr (6, [.ref r_refused, .ref r_now, .ref r_then, .ref r_before, .ref r_asIs, .int 0, .ref r_tape, .int 0, .int 0, .int 0, .ref r_begins, .ref r_kinds, .int 0, .ref r_field, .ref r_willTeach, .ref r_isBack, .ref r_told, .ref r_bestSeats, .ref r_firstSeats, .int 0, .int 0, .int 0, .int 0, .int 0, .int 0, .int 0, .int 0, .int 0, .ref r_restLearn, .ref r_marksNow, .ref r_row, .int 0, .int 0])), (r_refused, .inl (cI, 7, .inl (fun _ => 0)))]) [0, 1] rfl
      have hDc := hD.sub (ws' := [(h0, .inr (6, [.ref r_refused, .ref r_now, .ref r_then, .ref r_before, .ref r_asIs, .int 0, .ref r_tape, .int 0, .int 0, .int 0, .ref r_begins, .ref r_kinds, .int 0, .ref r_field, .ref r_willTeach, .ref r_isBack, .ref r_told, .ref r_bestSeats, .ref r_firstSeats, .int 0, .int 0, .int 0, .int 0, .int 0, .int 0, .int 0, .int 0, .int 0, .ref r_restLearn, .ref r_marksNow, .ref r_row, .int 0, .int 0])), (r_refused, .inl (cI, 7, .inl (fun _ => 0)))]) [0, 1] (by decide) rfl
      refine vx_calli (wc := [(h0, .inr (6, [.ref r_refused, .ref r_now, .ref r_then, .ref r_before, .ref r_asIs, .int 0, .ref r_tape, .int 0, .int 0, .int 0, .ref r_begins, .ref r_kinds, .int 0, .ref r_field, .ref r_willTeach, .ref r_isBack, .ref r_told, .ref r_bestSeats, .ref r_firstSeats, .int 0, .int 0, .int 0, .int 0, .int 0, .int 0, .int 0, .int 0, .int 0, .ref r_restLearn, .ref r_marksNow, .ref r_row, .int 0, .int 0])), (r_refused, .inl (cI, 7, .inl (fun _ => 0)))]) (wr := [(r_tape, .inl (cI, 64, .inl (fun _ => 0)))]) hP hD hS hA [0, 1] [2] rfl rfl (by decide) (by decide) (va_runV (As := [.int (-6)]) (rest := []) ⟨hx, hb, hml, hown, hts⟩ (r_no6 l dC dI cI cC cZ _ h0 r_refused r_now r_then r_before r_asIs r_tape r_begins r_kinds r_field r_willTeach r_isBack r_told r_bestSeats r_firstSeats r_restLearn r_marksNow r_row 0 0 0 0 0 0 0 0 0 0 0 0 0 0 0 0 0 (fun _ => 0) rfl) (cwV 1 hts gX8_letter_X8_no rfl rfl rfl (by decide +kernel) ⟨Nat.le_of_ble_eq_true rfl, Nat.le_of_ble_eq_true rfl⟩) ⟨vx_blind, va_recv hK hPc (ci := 6) (q0 := 0) rfl rfl, vx_pre hK hPc hDc⟩ rfl rfl hl.1 rfl (lv_room (Nat.le_of_ble_eq_true rfl)) dX8_letter_30 ⟨Nat.le_of_ble_eq_true rfl, Nat.le_of_ble_eq_true rfl⟩) (fun r4 u3 H locs hw5 hP hD hS => ?_)
      have hP : va_P (dC, dI) vwCl [(r_tape, .inl (cI, 64, .inl (fun _ => 0))), (h0, .inr (6, [.ref r_refused, .ref r_now, .ref r_then, .ref r_before, .ref r_asIs, .int 0, .ref r_tape, .int 0, .int 0, .int 0, .ref r_begins, .ref r_kinds, .int 0, .ref r_field, .ref r_willTeach, .ref r_isBack, .ref r_told, .ref r_bestSeats, .ref r_firstSeats, .int 0, .int 0, .int 0, .int 0, .int 0, .int 0, .int 0, .int 0, .int 0, .ref r_restLearn, .ref r_marksNow, .ref r_row, .int 0, .int 0])), (r_refused, .inl (cI, 7, .inl (upd (fun _ => 0) 6 1)))] H := hP
      have hD : va_D A [(r_tape, .inl (cI, 64, .inl (fun _ => 0))), (h0, .inr (6, [.ref r_refused, .ref r_now, .ref r_then, .ref r_before, .ref r_asIs, .int 0, .ref r_tape, .int 0, .int 0, .int 0, .ref r_begins, .ref r_kinds, .int 0, .ref r_field, .ref r_willTeach, .ref r_isBack, .ref r_told, .ref r_bestSeats, .ref r_firstSeats, .int 0, .int 0, .int 0, .int 0, .int 0, .int 0, .int 0, .int 0, .int 0, .ref r_restLearn, .ref r_marksNow, .ref r_row, .int 0, .int 0])), (r_refused, .inl (cI, 7, .inl (upd (fun _ => 0) 6 1)))] := hD
      have er4 : (-6) = r4 := Eq.symm hw5
      subst er4
      exact vx_iret (u := ()) hx hb hr hlocks hK hP hD hS [] rfl (by decide) (zz_m_letter_0 a c1 c2) dX8_letter_33
    · skip
      refine lv_aload_n hx hb dX8_letter_18 rfl (lv_at hl 0 rfl) ?_
      refine va_get (D := (dC, dI)) (ci := 6) (v := .int 0) (C := RX8) (T := TX8) (N := 33) hx hb hts iX8 hown hK hP 0 rfl rfl 7 (by decide) (hts (.fieldLink RX8 75 "NeighboursMarkModel" "taped" "I") (by decide +kernel)) (fun _ h9 => h9) rfl dX8_letter_19 ?_
      refine lv_bipush (v := 64) hx hb dX8_letter_22 (by decide) ?_
      refine lv_icmp_ne (tgt := 34) hx hb dX8_letter_24 (by decide) (fun _ => ?_) (fun c0 => absurd c0 (by decide))
      refine lv_aload_n hx hb dX8_letter_34 rfl (lv_at hl 0 rfl) ?_
      refine va_get (D := (dC, dI)) (ci := 6) (v := .ref r_tape) (C := RX8) (T := TX8) (N := 33) hx hb hts iX8 hown hK hP 0 rfl rfl 6 (by decide) (hts (.fieldLink RX8 25 "NeighboursMarkModel" "tape" "[I") (by decide +kernel)) (fun _ h9 => h9) rfl dX8_letter_35 ?_
      refine lv_aload_n hx hb dX8_letter_38 rfl (lv_at hl 0 rfl) ?_
      refine va_get (D := (dC, dI)) (ci := 6) (v := .int 0) (C := RX8) (T := TX8) (N := 33) hx hb hts iX8 hown hK hP 0 rfl rfl 7 (by decide) (hts (.fieldLink RX8 75 "NeighboursMarkModel" "taped" "I") (by decide +kernel)) (fun _ h9 => h9) rfl dX8_letter_39 ?_
      refine lv_iload_n hx hb dX8_letter_42 rfl (lv_at hl 1 rfl) ?_
      refine va_iast hx hb hK hP hD hS 2 0 rfl rfl (by unfold vp_in; decide) dX8_letter_43 (fun H locs hP hD hS => ?_)
      have hP : va_P (dC, dI) vwCl [(h0, .inr (6, [.ref r_refused, .ref r_now, .ref r_then, .ref r_before, .ref r_asIs, .int 0, .ref r_tape, .int 0, .int 0, .int 0, .ref r_begins, .ref r_kinds, .int 0, .ref r_field, .ref r_willTeach, .ref r_isBack, .ref r_told, .ref r_bestSeats, .ref r_firstSeats, .int 0, .int 0, .int 0, .int 0, .int 0, .int 0, .int 0, .int 0, .int 0, .ref r_restLearn, .ref r_marksNow, .ref r_row, .int 0, .int 0])), (r_refused, .inl (cI, 7, .inl (fun _ => 0))), (r_tape, .inl (cI, 64, .inl (upd (fun _ => 0) 0 a)))] H := hP
      have hD : va_D A [(h0, .inr (6, [.ref r_refused, .ref r_now, .ref r_then, .ref r_before, .ref r_asIs, .int 0, .ref r_tape, .int 0, .int 0, .int 0, .ref r_begins, .ref r_kinds, .int 0, .ref r_field, .ref r_willTeach, .ref r_isBack, .ref r_told, .ref r_bestSeats, .ref r_firstSeats, .int 0, .int 0, .int 0, .int 0, .int 0, .int 0, .int 0, .int 0, .int 0, .ref r_restLearn, .ref r_marksNow, .ref r_row, .int 0, .int 0])), (r_refused, .inl (cI, 7, .inl (fun _ => 0))), (r_tape, .inl (cI, 64, .inl (upd (fun _ => 0) 0 a)))] := hD
      refine lv_aload_n hx hb dX8_letter_44 rfl (lv_at hl 0 rfl) ?_
      refine lv_dup hx hb dX8_letter_45 rfl ?_
      refine va_get (D := (dC, dI)) (ci := 6) (v := .int 0) (C := RX8) (T := TX8) (N := 33) hx hb hts iX8 hown hK hP 0 rfl rfl 7 (by decide) (hts (.fieldLink RX8 75 "NeighboursMarkModel" "taped" "I") (by decide +kernel)) (fun _ h9 => h9) rfl dX8_letter_46 ?_
      refine lv_iconst (v := 1) hx hb dX8_letter_49 (by decide) ?_
      refine lv_iadd hx hb dX8_letter_50 ?_
      refine lv_topi (fun x6 ex6 => ?_)
      have ex6 : 1 = x6 := (ex6.trans (by decide)).symm
      subst ex6
      refine va_put (D := (dC, dI)) (ci := 6) (v := .int 1) (ty := .int) (C := RX8) (T := TX8) (N := 33) hx hb hts iX8 tyX8 tyX8_ok nmX8 hown hK hP hD hS 0 rfl rfl 7 (by decide) (hts (.fieldLink RX8 75 "NeighboursMarkModel" "taped" "I") (by decide +kernel)) (fun _ h9 => h9) rfl (by decide +kernel) rfl rfl (Nat.le_of_ble_eq_true rfl) dX8_letter_51 (fun H locs hP hD hS => ?_)
      have hP : va_P (dC, dI) vwCl [(h0, .inr (6, [.ref r_refused, .ref r_now, .ref r_then, .ref r_before, .ref r_asIs, .int 0, .ref r_tape, .int 1, .int 0, .int 0, .ref r_begins, .ref r_kinds, .int 0, .ref r_field, .ref r_willTeach, .ref r_isBack, .ref r_told, .ref r_bestSeats, .ref r_firstSeats, .int 0, .int 0, .int 0, .int 0, .int 0, .int 0, .int 0, .int 0, .int 0, .ref r_restLearn, .ref r_marksNow, .ref r_row, .int 0, .int 0])), (r_refused, .inl (cI, 7, .inl (fun _ => 0))), (r_tape, .inl (cI, 64, .inl (upd (fun _ => 0) 0 a)))] H := hP
      have hD : va_D A [(h0, .inr (6, [.ref r_refused, .ref r_now, .ref r_then, .ref r_before, .ref r_asIs, .int 0, .ref r_tape, .int 1, .int 0, .int 0, .ref r_begins, .ref r_kinds, .int 0, .ref r_field, .ref r_willTeach, .ref r_isBack, .ref r_told, .ref r_bestSeats, .ref r_firstSeats, .int 0, .int 0, .int 0, .int 0, .int 0, .int 0, .int 0, .int 0, .int 0, .ref r_restLearn, .ref r_marksNow, .ref r_row, .int 0, .int 0])), (r_refused, .inl (cI, 7, .inl (fun _ => 0))), (r_tape, .inl (cI, 64, .inl (upd (fun _ => 0) 0 a)))] := hD
      refine lv_aload_n hx hb dX8_letter_54 rfl (lv_at hl 0 rfl) ?_
      refine va_get (D := (dC, dI)) (ci := 6) (v := .int 1) (C := RX8) (T := TX8) (N := 33) hx hb hts iX8 hown hK hP 0 rfl rfl 7 (by decide) (hts (.fieldLink RX8 75 "NeighboursMarkModel" "taped" "I") (by decide +kernel)) (fun _ h9 => h9) rfl dX8_letter_55 ?_
      exact vx_iret (u := ()) hx hb hr hlocks hK hP hD hS [] rfl (by decide) (zz_m_letter_1 a c1 c2) dX8_letter_58
  · skip
    refine lv_aload_n hx hb dX8_letter_4 rfl (lv_at hl 0 rfl) ?_
    refine lv_bipush (v := (-4)) hx hb dX8_letter_5 (by decide) ?_
    have hPc := hP.sub (ws' := [(h0, .inr (6, [.ref r_refused, .ref r_now, .ref r_then, .ref r_before, .ref r_asIs, .int 0, .ref r_tape, .int 0, .int 0, .int 0, .ref r_begins, .ref r_kinds, .int 0, .ref r_field, .ref r_willTeach, .ref r_isBack, .ref r_told, .ref r_bestSeats, .ref r_firstSeats, .int 0, .int 0, .int 0, .int 0, .int 0, .int 0, .int 0, .int 0, .int 0, .ref r_restLearn, .ref r_marksNow, .ref r_row, .int 0, .int 0])), (r_refused, .inl (cI, 7, .inl (fun _ => 0)))]) [0, 1] rfl
    have hDc := hD.sub (ws' := [(h0, .inr (6, [.ref r_refused, .ref r_now, .ref r_then, .ref r_before, .ref r_asIs, .int 0, .ref r_tape, .int 0, .int 0, .int 0, .ref r_begins, .ref r_kinds, .int 0, .ref r_field, .ref r_willTeach, .ref r_isBack, .ref r_told, .ref r_bestSeats, .ref r_firstSeats, .int 0, .int 0, .int 0, .int 0, .int 0, .int 0, .int 0, .int 0, .int 0, .ref r_restLearn, .ref r_marksNow, .ref r_row, .int 0, .int 0])), (r_refused, .inl (cI, 7, .inl (fun _ => 0)))]) [0, 1] (by decide) rfl
    refine vx_calli (wc := [(h0, .inr (6, [.ref r_refused, .ref r_now, .ref r_then, .ref r_before, .ref r_asIs, .int 0, .ref r_tape, .int 0, .int 0, .int 0, .ref r_begins, .ref r_kinds, .int 0, .ref r_field, .ref r_willTeach, .ref r_isBack, .ref r_told, .ref r_bestSeats, .ref r_firstSeats, .int 0, .int 0, .int 0, .int 0, .int 0, .int 0, .int 0, .int 0, .int 0, .ref r_restLearn, .ref r_marksNow, .ref r_row, .int 0, .int 0])), (r_refused, .inl (cI, 7, .inl (fun _ => 0)))]) (wr := [(r_tape, .inl (cI, 64, .inl (fun _ => 0)))]) hP hD hS hA [0, 1] [2] rfl rfl (by decide) (by decide) (va_runV (As := [.int (-4)]) (rest := []) ⟨hx, hb, hml, hown, hts⟩ (r_no4 l dC dI cI cC cZ _ h0 r_refused r_now r_then r_before r_asIs r_tape r_begins r_kinds r_field r_willTeach r_isBack r_told r_bestSeats r_firstSeats r_restLearn r_marksNow r_row 0 0 0 0 0 0 0 0 0 0 0 0 0 0 0 0 0 (fun _ => 0) rfl) (cwV 1 hts gX8_letter_X8_no rfl rfl rfl (by decide +kernel) ⟨Nat.le_of_ble_eq_true rfl, Nat.le_of_ble_eq_true rfl⟩) ⟨vx_blind, va_recv hK hPc (ci := 6) (q0 := 0) rfl rfl, vx_pre hK hPc hDc⟩ rfl rfl hl.1 rfl (lv_room (Nat.le_of_ble_eq_true rfl)) dX8_letter_7 ⟨Nat.le_of_ble_eq_true rfl, Nat.le_of_ble_eq_true rfl⟩) (fun r8 u7 H locs hw9 hP hD hS => ?_)
    have hP : va_P (dC, dI) vwCl [(r_tape, .inl (cI, 64, .inl (fun _ => 0))), (h0, .inr (6, [.ref r_refused, .ref r_now, .ref r_then, .ref r_before, .ref r_asIs, .int 0, .ref r_tape, .int 0, .int 0, .int 0, .ref r_begins, .ref r_kinds, .int 0, .ref r_field, .ref r_willTeach, .ref r_isBack, .ref r_told, .ref r_bestSeats, .ref r_firstSeats, .int 0, .int 0, .int 0, .int 0, .int 0, .int 0, .int 0, .int 0, .int 0, .ref r_restLearn, .ref r_marksNow, .ref r_row, .int 0, .int 0])), (r_refused, .inl (cI, 7, .inl (upd (fun _ => 0) 4 1)))] H := hP
    have hD : va_D A [(r_tape, .inl (cI, 64, .inl (fun _ => 0))), (h0, .inr (6, [.ref r_refused, .ref r_now, .ref r_then, .ref r_before, .ref r_asIs, .int 0, .ref r_tape, .int 0, .int 0, .int 0, .ref r_begins, .ref r_kinds, .int 0, .ref r_field, .ref r_willTeach, .ref r_isBack, .ref r_told, .ref r_bestSeats, .ref r_firstSeats, .int 0, .int 0, .int 0, .int 0, .int 0, .int 0, .int 0, .int 0, .int 0, .ref r_restLearn, .ref r_marksNow, .ref r_row, .int 0, .int 0])), (r_refused, .inl (cI, 7, .inl (upd (fun _ => 0) 4 1)))] := hD
    have er8 : (-4) = r8 := Eq.symm hw9
    subst er8
    exact vx_iret (u := ()) hx hb hr hlocks hK hP hD hS [] rfl (by decide) (zz_m_letter_2 a c1) dX8_letter_10
set_option maxHeartbeats 4000000 in
set_option maxRecDepth 100000 in
theorem m_school (l : Launch) (dC : Nat → ClassId) (dI : Nat → Nat → Nat) (cI cC cZ : ClassId) (sz : Nat) (h0 r_refused r_now r_then r_before r_asIs r_tape r_begins r_kinds r_field r_willTeach r_isBack r_told r_bestSeats r_firstSeats r_restLearn r_marksNow r_row : Nat) : Met l yX8_school wsX8_school ({ frames := 3, cells := 0, slots := 0, locals := 66 }) (va_Pc [.ref h0] (vx_B (dC, dI) (vx_T cI cC cZ) sz [(h0, .inr (6, [.ref r_refused, .ref r_now, .ref r_then, .ref r_before, .ref r_asIs, .int 0, .ref r_tape, .int 0, .int 0, .int 0, .ref r_begins, .ref r_kinds, .int 0, .ref r_field, .ref r_willTeach, .ref r_isBack, .ref r_told, .ref r_bestSeats, .ref r_firstSeats, .int 0, .int 0, .int 0, .int 0, .int 0, .int 0, .int 0, .int 0, .int 0, .ref r_restLearn, .ref r_marksNow, .ref r_row, .int 0, .int 0])), (r_begins, .inl (cC, 7, .inl (upd (upd (upd (upd (upd (upd (upd (fun _ => 0) 0 112) 1 104) 2 108) 3 114) 4 119) 5 120) 6 109))), (r_kinds, .inl (cC, 6, .inl (upd (upd (upd (upd (upd (upd (fun _ => 0) 0 115) 1 108) 2 104) 3 116) 4 98) 5 111))), (r_field, .inl (cI, 3, .inl (fun _ => 0)))])) (va_Qi (fun (r : Int32) (_ : Unit) => r = (-1000)) (vx_C (dC, dI) (vx_T cI cC cZ) (va_A [(h0, .inr (6, [.ref r_refused, .ref r_now, .ref r_then, .ref r_before, .ref r_asIs, .int 0, .ref r_tape, .int 0, .int 0, .int 0, .ref r_begins, .ref r_kinds, .int 0, .ref r_field, .ref r_willTeach, .ref r_isBack, .ref r_told, .ref r_bestSeats, .ref r_firstSeats, .int 0, .int 0, .int 0, .int 0, .int 0, .int 0, .int 0, .int 0, .int 0, .ref r_restLearn, .ref r_marksNow, .ref r_row, .int 0, .int 0])), (r_begins, .inl (cC, 7, .inl (upd (upd (upd (upd (upd (upd (upd (fun _ => 0) 0 112) 1 104) 2 108) 3 114) 4 119) 5 120) 6 109))), (r_kinds, .inl (cC, 6, .inl (upd (upd (upd (upd (upd (upd (fun _ => 0) 0 115) 1 108) 2 104) 3 116) 4 98) 5 111))), (r_field, .inl (cI, 3, .inl (fun _ => 0)))] sz) (fun (u : Unit) => [])) (va_A [(h0, .inr (6, [.ref r_refused, .ref r_now, .ref r_then, .ref r_before, .ref r_asIs, .int 0, .ref r_tape, .int 0, .int 0, .int 0, .ref r_begins, .ref r_kinds, .int 0, .ref r_field, .ref r_willTeach, .ref r_isBack, .ref r_told, .ref r_bestSeats, .ref r_firstSeats, .int 0, .int 0, .int 0, .int 0, .int 0, .int 0, .int 0, .int 0, .int 0, .ref r_restLearn, .ref r_marksNow, .ref r_row, .int 0, .int 0])), (r_begins, .inl (cC, 7, .inl (upd (upd (upd (upd (upd (upd (upd (fun _ => 0) 0 112) 1 104) 2 108) 3 114) 4 119) 5 120) 6 109))), (r_kinds, .inl (cC, 6, .inl (upd (upd (upd (upd (upd (upd (fun _ => 0) 0 115) 1 108) 2 104) 3 116) 4 98) 5 111))), (r_field, .inl (cI, 3, .inl (fun _ => 0)))] sz)) 0 0 (va_A [(h0, .inr (6, [.ref r_refused, .ref r_now, .ref r_then, .ref r_before, .ref r_asIs, .int 0, .ref r_tape, .int 0, .int 0, .int 0, .ref r_begins, .ref r_kinds, .int 0, .ref r_field, .ref r_willTeach, .ref r_isBack, .ref r_told, .ref r_bestSeats, .ref r_firstSeats, .int 0, .int 0, .int 0, .int 0, .int 0, .int 0, .int 0, .int 0, .int 0, .ref r_restLearn, .ref r_marksNow, .ref r_row, .int 0, .int 0])), (r_begins, .inl (cC, 7, .inl (upd (upd (upd (upd (upd (upd (upd (fun _ => 0) 0 112) 1 104) 2 108) 3 114) 4 119) 5 120) 6 109))), (r_kinds, .inl (cC, 6, .inl (upd (upd (upd (upd (upd (upd (fun _ => 0) 0 115) 1 108) 2 104) 3 116) 4 98) 5 111))), (r_field, .inl (cI, 3, .inl (fun _ => 0)))] sz) := by
  refine Met.ofW (cc := cX8_school) (maxL := 2) (ret := (some .int)) (by decide) rfl ?_
  intro p e s m args below meth c s₁ B hml hv
  obtain ⟨rfl, hsz, hP, hK, hD0⟩ := hv
  have hx := B.exec
  have hb := B.bytes
  have hr := B.returns
  have hts := atoms_spec (ws := wsX8_school) B.pre
  have hown : s.vm.findClass RX8 = some m.cls := findClass_of_methodNamed B.named
  have hlocks := B.notSynchronized
  subst hsz
  have hD := hD0.self (sz := s.heap.size)
  generalize hAe : va_A [(h0, .inr (6, [.ref r_refused, .ref r_now, .ref r_then, .ref r_before, .ref r_asIs, .int 0, .ref r_tape, .int 0, .int 0, .int 0, .ref r_begins, .ref r_kinds, .int 0, .ref r_field, .ref r_willTeach, .ref r_isBack, .ref r_told, .ref r_bestSeats, .ref r_firstSeats, .int 0, .int 0, .int 0, .int 0, .int 0, .int 0, .int 0, .int 0, .int 0, .ref r_restLearn, .ref r_marksNow, .ref r_row, .int 0, .int 0])), (r_begins, .inl (cC, 7, .inl (upd (upd (upd (upd (upd (upd (upd (fun _ => 0) 0 112) 1 104) 2 108) 3 114) 4 119) 5 120) 6 109))), (r_kinds, .inl (cC, 6, .inl (upd (upd (upd (upd (upd (upd (fun _ => 0) 0 115) 1 108) 2 104) 3 116) 4 98) 5 111))), (r_field, .inl (cI, 3, .inl (fun _ => 0)))] s.heap.size = A at hD ⊢
  have hA : ∀ q : Nat, s.heap.size ≤ q → A q := fun q h => by rw [← hAe]; exact Or.inr h
  have hS : va_S A s.heap s.heap [] := va_S.rf
  have hl := lv_entry ([.ref h0]) (n := 2) (Nat.le_of_ble_eq_true rfl)
  rw [lg_entry_eq]
  generalize (lg_sl ([.ref h0]) ++ List.replicate (2 - (lg_sl ([.ref h0])).length) Slot.unset).toArray = ls at hl ⊢
  have hl : lv_has ls 2 [(0, .ref h0)] := hl
  have iX8 : ∀ w ∈ u_ws RX8 TX8 33, w ∈ wsX8_school := by decide +kernel
  refine lv_aload_n hx hb dX8_school_0 rfl (lv_at hl 0 rfl) ?_
  have hPc := hP.sub (ws' := [(h0, .inr (6, [.ref r_refused, .ref r_now, .ref r_then, .ref r_before, .ref r_asIs, .int 0, .ref r_tape, .int 0, .int 0, .int 0, .ref r_begins, .ref r_kinds, .int 0, .ref r_field, .ref r_willTeach, .ref r_isBack, .ref r_told, .ref r_bestSeats, .ref r_firstSeats, .int 0, .int 0, .int 0, .int 0, .int 0, .int 0, .int 0, .int 0, .int 0, .ref r_restLearn, .ref r_marksNow, .ref r_row, .int 0, .int 0])), (r_begins, .inl (cC, 7, .inl (upd (upd (upd (upd (upd (upd (upd (fun _ => 0) 0 112) 1 104) 2 108) 3 114) 4 119) 5 120) 6 109))), (r_kinds, .inl (cC, 6, .inl (upd (upd (upd (upd (upd (upd (fun _ => 0) 0 115) 1 108) 2 104) 3 116) 4 98) 5 111))), (r_field, .inl (cI, 3, .inl (fun _ => 0)))]) [0, 1, 2, 3] rfl
  have hDc := hD.sub (ws' := [(h0, .inr (6, [.ref r_refused, .ref r_now, .ref r_then, .ref r_before, .ref r_asIs, .int 0, .ref r_tape, .int 0, .int 0, .int 0, .ref r_begins, .ref r_kinds, .int 0, .ref r_field, .ref r_willTeach, .ref r_isBack, .ref r_told, .ref r_bestSeats, .ref r_firstSeats, .int 0, .int 0, .int 0, .int 0, .int 0, .int 0, .int 0, .int 0, .int 0, .ref r_restLearn, .ref r_marksNow, .ref r_row, .int 0, .int 0])), (r_begins, .inl (cC, 7, .inl (upd (upd (upd (upd (upd (upd (upd (fun _ => 0) 0 112) 1 104) 2 108) 3 114) 4 119) 5 120) 6 109))), (r_kinds, .inl (cC, 6, .inl (upd (upd (upd (upd (upd (upd (fun _ => 0) 0 115) 1 108) 2 104) 3 116) 4 98) 5 111))), (r_field, .inl (cI, 3, .inl (fun _ => 0)))]) [0, 1, 2, 3] (by decide) rfl
  refine vx_calli (wc := [(h0, .inr (6, [.ref r_refused, .ref r_now, .ref r_then, .ref r_before, .ref r_asIs, .int 0, .ref r_tape, .int 0, .int 0, .int 0, .ref r_begins, .ref r_kinds, .int 0, .ref r_field, .ref r_willTeach, .ref r_isBack, .ref r_told, .ref r_bestSeats, .ref r_firstSeats, .int 0, .int 0, .int 0, .int 0, .int 0, .int 0, .int 0, .int 0, .int 0, .ref r_restLearn, .ref r_marksNow, .ref r_row, .int 0, .int 0])), (r_begins, .inl (cC, 7, .inl (upd (upd (upd (upd (upd (upd (upd (fun _ => 0) 0 112) 1 104) 2 108) 3 114) 4 119) 5 120) 6 109))), (r_kinds, .inl (cC, 6, .inl (upd (upd (upd (upd (upd (upd (fun _ => 0) 0 115) 1 108) 2 104) 3 116) 4 98) 5 111))), (r_field, .inl (cI, 3, .inl (fun _ => 0)))]) (wr := []) hP hD hS hA [0, 1, 2, 3] [] rfl rfl (by decide) (by decide) (va_runV (As := []) (rest := []) ⟨hx, hb, hml, hown, hts⟩ (r_read l dC dI cI cC cZ _ h0 r_refused r_now r_then r_before r_asIs r_tape r_begins r_kinds r_field r_willTeach r_isBack r_told r_bestSeats r_firstSeats r_restLearn r_marksNow r_row 0 0 0 0 0 0 0 0 0 0 0 0 0 0 0 (upd (upd (upd (upd (upd (upd (upd (fun _ => 0) 0 112) 1 104) 2 108) 3 114) 4 119) 5 120) 6 109) (upd (upd (upd (upd (upd (upd (fun _ => 0) 0 115) 1 108) 2 104) 3 116) 4 98) 5 111) (fun _ => 0)) (cwV 0 hts gX8_school_X8_read rfl rfl rfl (by decide +kernel) ⟨Nat.le_of_ble_eq_true rfl, Nat.le_of_ble_eq_true rfl⟩) ⟨vx_blind, va_recv hK hPc (ci := 6) (q0 := 0) rfl rfl, vx_pre hK hPc hDc⟩ rfl rfl hl.1 rfl (lv_room (Nat.le_of_ble_eq_true rfl)) dX8_school_1 ⟨Nat.le_of_ble_eq_true rfl, Nat.le_of_ble_eq_true rfl⟩) (fun r2 u1 H locs hw3 hP hD hS => ?_)
  have hP : va_P (dC, dI) vwCl [(h0, .inr (6, [.ref r_refused, .ref r_now, .ref r_then, .ref r_before, .ref r_asIs, .int 0, .ref r_tape, .int 0, .int 0, .int 0, .ref r_begins, .ref r_kinds, .int 0, .ref r_field, .ref r_willTeach, .ref r_isBack, .ref r_told, .ref r_bestSeats, .ref r_firstSeats, .int 0, .int 0, .int 0, .int 0, .int 0, .int 0, .int 0, .int 0, .int 0, .ref r_restLearn, .ref r_marksNow, .ref r_row, .int 0, .int 0]))] H := hP
  have hD : va_D A [(h0, .inr (6, [.ref r_refused, .ref r_now, .ref r_then, .ref r_before, .ref r_asIs, .int 0, .ref r_tape, .int 0, .int 0, .int 0, .ref r_begins, .ref r_kinds, .int 0, .ref r_field, .ref r_willTeach, .ref r_isBack, .ref r_told, .ref r_bestSeats, .ref r_firstSeats, .int 0, .int 0, .int 0, .int 0, .int 0, .int 0, .int 0, .int 0, .int 0, .ref r_restLearn, .ref r_marksNow, .ref r_row, .int 0, .int 0]))] := hD
  have er2 : (-1000) = r2 := Eq.symm hw3
  subst er2
  refine lv_istore_n (lv' := [(1, .int (-1000)), (0, .ref h0)]) hx hb dX8_school_4 rfl hl (by decide) rfl (fun ls hl => ?_)
  refine lv_aload_n hx hb dX8_school_5 rfl (lv_at hl 1 rfl) ?_
  refine lv_iconst (v := 0) hx hb dX8_school_6 (by decide) ?_
  refine va_put (D := (dC, dI)) (ci := 6) (v := .int 0) (ty := .int) (C := RX8) (T := TX8) (N := 33) hx hb hts iX8 tyX8 tyX8_ok nmX8 hown hK hP hD hS 0 rfl rfl 7 (by decide) (hts (.fieldLink RX8 75 "NeighboursMarkModel" "taped" "I") (by decide +kernel)) (fun _ h9 => h9) rfl (by decide +kernel) rfl rfl (Nat.le_of_ble_eq_true rfl) dX8_school_7 (fun H locs hP hD hS => ?_)
  have hP : va_P (dC, dI) vwCl [(h0, .inr (6, [.ref r_refused, .ref r_now, .ref r_then, .ref r_before, .ref r_asIs, .int 0, .ref r_tape, .int 0, .int 0, .int 0, .ref r_begins, .ref r_kinds, .int 0, .ref r_field, .ref r_willTeach, .ref r_isBack, .ref r_told, .ref r_bestSeats, .ref r_firstSeats, .int 0, .int 0, .int 0, .int 0, .int 0, .int 0, .int 0, .int 0, .int 0, .ref r_restLearn, .ref r_marksNow, .ref r_row, .int 0, .int 0]))] H := hP
  have hD : va_D A [(h0, .inr (6, [.ref r_refused, .ref r_now, .ref r_then, .ref r_before, .ref r_asIs, .int 0, .ref r_tape, .int 0, .int 0, .int 0, .ref r_begins, .ref r_kinds, .int 0, .ref r_field, .ref r_willTeach, .ref r_isBack, .ref r_told, .ref r_bestSeats, .ref r_firstSeats, .int 0, .int 0, .int 0, .int 0, .int 0, .int 0, .int 0, .int 0, .int 0, .ref r_restLearn, .ref r_marksNow, .ref r_row, .int 0, .int 0]))] := hD
  refine lv_iload_n hx hb dX8_school_10 rfl (lv_at hl 0 rfl) ?_
  exact vx_iret (u := ()) hx hb hr hlocks hK hP hD hS [] rfl (by decide) rfl dX8_school_11
set_option maxHeartbeats 4000000 in
set_option maxRecDepth 100000 in
theorem m_pupil (l : Launch) (dC : Nat → ClassId) (dI : Nat → Nat → Nat) (cI cC cZ : ClassId) (sz : Nat) (h0 r_refused r_now r_then r_before r_asIs r_tape r_begins r_kinds r_field r_willTeach r_isBack r_told r_bestSeats r_firstSeats r_restLearn r_marksNow r_row : Nat) (a b : Int32) : Met l yX8_pupil wsX8_pupil ({ frames := 1, cells := 0, slots := 0, locals := 21 }) (va_Pc [.ref h0, .int a, .int b] (vx_B (dC, dI) (vx_T cI cC cZ) sz [(h0, .inr (6, [.ref r_refused, .ref r_now, .ref r_then, .ref r_before, .ref r_asIs, .int 0, .ref r_tape, .int 0, .int 0, .int 0, .ref r_begins, .ref r_kinds, .int 0, .ref r_field, .ref r_willTeach, .ref r_isBack, .ref r_told, .ref r_bestSeats, .ref r_firstSeats, .int 0, .int 0, .int 0, .int 0, .int 0, .int 0, .int 0, .int 0, .int 0, .ref r_restLearn, .ref r_marksNow, .ref r_row, .int 0, .int 0])), (r_refused, .inl (cI, 7, .inl (fun _ => 0))), (r_now, .inl (cI, 80, .inl (upd (upd (upd (upd (fun _ => 0) 1 2) 3 1) 4 10) 5 1)))])) (va_Qi (fun (r : Int32) (_ : Unit) => r = (-1)) (vx_C (dC, dI) (vx_T cI cC cZ) (va_A [(h0, .inr (6, [.ref r_refused, .ref r_now, .ref r_then, .ref r_before, .ref r_asIs, .int 0, .ref r_tape, .int 0, .int 0, .int 0, .ref r_begins, .ref r_kinds, .int 0, .ref r_field, .ref r_willTeach, .ref r_isBack, .ref r_told, .ref r_bestSeats, .ref r_firstSeats, .int 0, .int 0, .int 0, .int 0, .int 0, .int 0, .int 0, .int 0, .int 0, .ref r_restLearn, .ref r_marksNow, .ref r_row, .int 0, .int 0])), (r_refused, .inl (cI, 7, .inl (fun _ => 0))), (r_now, .inl (cI, 80, .inl (upd (upd (upd (upd (fun _ => 0) 1 2) 3 1) 4 10) 5 1)))] sz) (fun (u : Unit) => [])) (va_A [(h0, .inr (6, [.ref r_refused, .ref r_now, .ref r_then, .ref r_before, .ref r_asIs, .int 0, .ref r_tape, .int 0, .int 0, .int 0, .ref r_begins, .ref r_kinds, .int 0, .ref r_field, .ref r_willTeach, .ref r_isBack, .ref r_told, .ref r_bestSeats, .ref r_firstSeats, .int 0, .int 0, .int 0, .int 0, .int 0, .int 0, .int 0, .int 0, .int 0, .ref r_restLearn, .ref r_marksNow, .ref r_row, .int 0, .int 0])), (r_refused, .inl (cI, 7, .inl (fun _ => 0))), (r_now, .inl (cI, 80, .inl (upd (upd (upd (upd (fun _ => 0) 1 2) 3 1) 4 10) 5 1)))] sz)) 0 0 (va_A [(h0, .inr (6, [.ref r_refused, .ref r_now, .ref r_then, .ref r_before, .ref r_asIs, .int 0, .ref r_tape, .int 0, .int 0, .int 0, .ref r_begins, .ref r_kinds, .int 0, .ref r_field, .ref r_willTeach, .ref r_isBack, .ref r_told, .ref r_bestSeats, .ref r_firstSeats, .int 0, .int 0, .int 0, .int 0, .int 0, .int 0, .int 0, .int 0, .int 0, .ref r_restLearn, .ref r_marksNow, .ref r_row, .int 0, .int 0])), (r_refused, .inl (cI, 7, .inl (fun _ => 0))), (r_now, .inl (cI, 80, .inl (upd (upd (upd (upd (fun _ => 0) 1 2) 3 1) 4 10) 5 1)))] sz) := by
  refine Met.ofW (cc := cX8_pupil) (maxL := 3) (ret := (some .int)) (by decide) rfl ?_
  intro p e s m args below meth c s₁ B hml hv
  obtain ⟨rfl, hsz, hP, hK, hD0⟩ := hv
  have hx := B.exec
  have hb := B.bytes
  have hr := B.returns
  have hts := atoms_spec (ws := wsX8_pupil) B.pre
  have hown : s.vm.findClass RX8 = some m.cls := findClass_of_methodNamed B.named
  have hlocks := B.notSynchronized
  subst hsz
  have hD := hD0.self (sz := s.heap.size)
  generalize hAe : va_A [(h0, .inr (6, [.ref r_refused, .ref r_now, .ref r_then, .ref r_before, .ref r_asIs, .int 0, .ref r_tape, .int 0, .int 0, .int 0, .ref r_begins, .ref r_kinds, .int 0, .ref r_field, .ref r_willTeach, .ref r_isBack, .ref r_told, .ref r_bestSeats, .ref r_firstSeats, .int 0, .int 0, .int 0, .int 0, .int 0, .int 0, .int 0, .int 0, .int 0, .ref r_restLearn, .ref r_marksNow, .ref r_row, .int 0, .int 0])), (r_refused, .inl (cI, 7, .inl (fun _ => 0))), (r_now, .inl (cI, 80, .inl (upd (upd (upd (upd (fun _ => 0) 1 2) 3 1) 4 10) 5 1)))] s.heap.size = A at hD ⊢
  have hA : ∀ q : Nat, s.heap.size ≤ q → A q := fun q h => by rw [← hAe]; exact Or.inr h
  have hS : va_S A s.heap s.heap [] := va_S.rf
  have hl := lv_entry ([.ref h0, .int a, .int b]) (n := 3) (Nat.le_of_ble_eq_true rfl)
  rw [lg_entry_eq]
  generalize (lg_sl ([.ref h0, .int a, .int b]) ++ List.replicate (3 - (lg_sl ([.ref h0, .int a, .int b])).length) Slot.unset).toArray = ls at hl ⊢
  have hl : lv_has ls 3 [(0, .ref h0), (1, .int a), (2, .int b)] := hl
  refine lv_aload_n hx hb dX8_pupil_0 rfl (lv_at hl 0 rfl) ?_
  refine lv_iload_n hx hb dX8_pupil_1 rfl (lv_at hl 1 rfl) ?_
  have hPc := hP.sub (ws' := [(h0, .inr (6, [.ref r_refused, .ref r_now, .ref r_then, .ref r_before, .ref r_asIs, .int 0, .ref r_tape, .int 0, .int 0, .int 0, .ref r_begins, .ref r_kinds, .int 0, .ref r_field, .ref r_willTeach, .ref r_isBack, .ref r_told, .ref r_bestSeats, .ref r_firstSeats, .int 0, .int 0, .int 0, .int 0, .int 0, .int 0, .int 0, .int 0, .int 0, .ref r_restLearn, .ref r_marksNow, .ref r_row, .int 0, .int 0])), (r_now, .inl (cI, 80, .inl (upd (upd (upd (upd (fun _ => 0) 1 2) 3 1) 4 10) 5 1)))]) [0, 2] rfl
  have hDc := hD.sub (ws' := [(h0, .inr (6, [.ref r_refused, .ref r_now, .ref r_then, .ref r_before, .ref r_asIs, .int 0, .ref r_tape, .int 0, .int 0, .int 0, .ref r_begins, .ref r_kinds, .int 0, .ref r_field, .ref r_willTeach, .ref r_isBack, .ref r_told, .ref r_bestSeats, .ref r_firstSeats, .int 0, .int 0, .int 0, .int 0, .int 0, .int 0, .int 0, .int 0, .int 0, .ref r_restLearn, .ref r_marksNow, .ref r_row, .int 0, .int 0])), (r_now, .inl (cI, 80, .inl (upd (upd (upd (upd (fun _ => 0) 1 2) 3 1) 4 10) 5 1)))]) [0, 2] (by decide) rfl
  refine vx_calli (wc := [(h0, .inr (6, [.ref r_refused, .ref r_now, .ref r_then, .ref r_before, .ref r_asIs, .int 0, .ref r_tape, .int 0, .int 0, .int 0, .ref r_begins, .ref r_kinds, .int 0, .ref r_field, .ref r_willTeach, .ref r_isBack, .ref r_told, .ref r_bestSeats, .ref r_firstSeats, .int 0, .int 0, .int 0, .int 0, .int 0, .int 0, .int 0, .int 0, .int 0, .ref r_restLearn, .ref r_marksNow, .ref r_row, .int 0, .int 0])), (r_now, .inl (cI, 80, .inl (upd (upd (upd (upd (fun _ => 0) 1 2) 3 1) 4 10) 5 1)))]) (wr := [(r_refused, .inl (cI, 7, .inl (fun _ => 0)))]) hP hD hS hA [0, 2] [1] rfl rfl (by decide) (by decide) (va_runV (As := [.int a]) (rest := []) ⟨hx, hb, hml, hown, hts⟩ (r_isNobody l dC dI cI cC cZ _ h0 r_refused r_now r_then r_before r_asIs r_tape r_begins r_kinds r_field r_willTeach r_isBack r_told r_bestSeats r_firstSeats r_restLearn r_marksNow r_row 0 0 0 0 0 0 0 0 0 0 0 0 0 0 0 0 a (upd (upd (upd (upd (fun _ => 0) 1 2) 3 1) 4 10) 5 1) rfl) (cwV 1 hts gX8_pupil_X8_isNobody rfl rfl rfl (by decide +kernel) ⟨Nat.le_of_ble_eq_true rfl, Nat.le_of_ble_eq_true rfl⟩) ⟨vx_blind, va_recv hK hPc (ci := 6) (q0 := 0) rfl rfl, vx_pre hK hPc hDc⟩ rfl rfl hl.1 rfl (lv_room (Nat.le_of_ble_eq_true rfl)) dX8_pupil_2 ⟨Nat.le_of_ble_eq_true rfl, Nat.le_of_ble_eq_true rfl⟩) (fun r2 u1 H locs hw3 hP hD hS => ?_)
  have hP : va_P (dC, dI) vwCl [(r_refused, .inl (cI, 7, .inl (fun _ => 0))), (h0, .inr (6, [.ref r_refused, .ref r_now, .ref r_then, .ref r_before, .ref r_asIs, .int 0, .ref r_tape, .int 0, .int 0, .int 0, .ref r_begins, .ref r_kinds, .int 0, .ref r_field, .ref r_willTeach, .ref r_isBack, .ref r_told, .ref r_bestSeats, .ref r_firstSeats, .int 0, .int 0, .int 0, .int 0, .int 0, .int 0, .int 0, .int 0, .int 0, .ref r_restLearn, .ref r_marksNow, .ref r_row, .int 0, .int 0])), (r_now, .inl (cI, 80, .inl (upd (upd (upd (upd (fun _ => 0) 1 2) 3 1) 4 10) 5 1)))] H := hP
  have hD : va_D A [(r_refused, .inl (cI, 7, .inl (fun _ => 0))), (h0, .inr (6, [.ref r_refused, .ref r_now, .ref r_then, .ref r_before, .ref r_asIs, .int 0, .ref r_tape, .int 0, .int 0, .int 0, .ref r_begins, .ref r_kinds, .int 0, .ref r_field, .ref r_willTeach, .ref r_isBack, .ref r_told, .ref r_bestSeats, .ref r_firstSeats, .int 0, .int 0, .int 0, .int 0, .int 0, .int 0, .int 0, .int 0, .int 0, .ref r_restLearn, .ref r_marksNow, .ref r_row, .int 0, .int 0])), (r_now, .inl (cI, 80, .inl (upd (upd (upd (upd (fun _ => 0) 1 2) 3 1) 4 10) 5 1)))] := hD
  have er2 : 1 = r2 := Eq.symm hw3
  subst er2
  refine lv_if_eq (tgt := 14) hx hb dX8_pupil_5 (by decide) (fun c0 => absurd c0 (by decide)) (fun _ => ?_)
  refine lv_aload_n hx hb dX8_pupil_8 rfl (lv_at hl 0 rfl) ?_
  refine lv_iconst (v := (-1)) hx hb dX8_pupil_9 (by decide) ?_
  have hPc := hP.sub (ws' := [(h0, .inr (6, [.ref r_refused, .ref r_now, .ref r_then, .ref r_before, .ref r_asIs, .int 0, .ref r_tape, .int 0, .int 0, .int 0, .ref r_begins, .ref r_kinds, .int 0, .ref r_field, .ref r_willTeach, .ref r_isBack, .ref r_told, .ref r_bestSeats, .ref r_firstSeats, .int 0, .int 0, .int 0, .int 0, .int 0, .int 0, .int 0, .int 0, .int 0, .ref r_restLearn, .ref r_marksNow, .ref r_row, .int 0, .int 0])), (r_refused, .inl (cI, 7, .inl (fun _ => 0)))]) [1, 0] rfl
  have hDc := hD.sub (ws' := [(h0, .inr (6, [.ref r_refused, .ref r_now, .ref r_then, .ref r_before, .ref r_asIs, .int 0, .ref r_tape, .int 0, .int 0, .int 0, .ref r_begins, .ref r_kinds, .int 0, .ref r_field, .ref r_willTeach, .ref r_isBack, .ref r_told, .ref r_bestSeats, .ref r_firstSeats, .int 0, .int 0, .int 0, .int 0, .int 0, .int 0, .int 0, .int 0, .int 0, .ref r_restLearn, .ref r_marksNow, .ref r_row, .int 0, .int 0])), (r_refused, .inl (cI, 7, .inl (fun _ => 0)))]) [1, 0] (by decide) rfl
  refine vx_calli (wc := [(h0, .inr (6, [.ref r_refused, .ref r_now, .ref r_then, .ref r_before, .ref r_asIs, .int 0, .ref r_tape, .int 0, .int 0, .int 0, .ref r_begins, .ref r_kinds, .int 0, .ref r_field, .ref r_willTeach, .ref r_isBack, .ref r_told, .ref r_bestSeats, .ref r_firstSeats, .int 0, .int 0, .int 0, .int 0, .int 0, .int 0, .int 0, .int 0, .int 0, .ref r_restLearn, .ref r_marksNow, .ref r_row, .int 0, .int 0])), (r_refused, .inl (cI, 7, .inl (fun _ => 0)))]) (wr := [(r_now, .inl (cI, 80, .inl (upd (upd (upd (upd (fun _ => 0) 1 2) 3 1) 4 10) 5 1)))]) hP hD hS hA [1, 0] [2] rfl rfl (by decide) (by decide) (va_runV (As := [.int (-1)]) (rest := []) ⟨hx, hb, hml, hown, hts⟩ (r_no1 l dC dI cI cC cZ _ h0 r_refused r_now r_then r_before r_asIs r_tape r_begins r_kinds r_field r_willTeach r_isBack r_told r_bestSeats r_firstSeats r_restLearn r_marksNow r_row 0 0 0 0 0 0 0 0 0 0 0 0 0 0 0 0 0 (fun _ => 0) rfl) (cwV 1 hts gX8_pupil_X8_no rfl rfl rfl (by decide +kernel) ⟨Nat.le_of_ble_eq_true rfl, Nat.le_of_ble_eq_true rfl⟩) ⟨vx_blind, va_recv hK hPc (ci := 6) (q0 := 0) rfl rfl, vx_pre hK hPc hDc⟩ rfl rfl hl.1 rfl (lv_room (Nat.le_of_ble_eq_true rfl)) dX8_pupil_10 ⟨Nat.le_of_ble_eq_true rfl, Nat.le_of_ble_eq_true rfl⟩) (fun r5 u4 H locs hw6 hP hD hS => ?_)
  have hP : va_P (dC, dI) vwCl [(r_now, .inl (cI, 80, .inl (upd (upd (upd (upd (fun _ => 0) 1 2) 3 1) 4 10) 5 1))), (h0, .inr (6, [.ref r_refused, .ref r_now, .ref r_then, .ref r_before, .ref r_asIs, .int 0, .ref r_tape, .int 0, .int 0, .int 0, .ref r_begins, .ref r_kinds, .int 0, .ref r_field, .ref r_willTeach, .ref r_isBack, .ref r_told, .ref r_bestSeats, .ref r_firstSeats, .int 0, .int 0, .int 0, .int 0, .int 0, .int 0, .int 0, .int 0, .int 0, .ref r_restLearn, .ref r_marksNow, .ref r_row, .int 0, .int 0])), (r_refused, .inl (cI, 7, .inl (upd (fun _ => 0) 1 1)))] H := hP
  have hD : va_D A [(r_now, .inl (cI, 80, .inl (upd (upd (upd (upd (fun _ => 0) 1 2) 3 1) 4 10) 5 1))), (h0, .inr (6, [.ref r_refused, .ref r_now, .ref r_then, .ref r_before, .ref r_asIs, .int 0, .ref r_tape, .int 0, .int 0, .int 0, .ref r_begins, .ref r_kinds, .int 0, .ref r_field, .ref r_willTeach, .ref r_isBack, .ref r_told, .ref r_bestSeats, .ref r_firstSeats, .int 0, .int 0, .int 0, .int 0, .int 0, .int 0, .int 0, .int 0, .int 0, .ref r_restLearn, .ref r_marksNow, .ref r_row, .int 0, .int 0])), (r_refused, .inl (cI, 7, .inl (upd (fun _ => 0) 1 1)))] := hD
  have er5 : (-1) = r5 := Eq.symm hw6
  subst er5
  exact vx_iret (u := ()) hx hb hr hlocks hK hP hD hS [] rfl (by decide) rfl dX8_pupil_13
set_option maxHeartbeats 4000000 in
set_option maxRecDepth 100000 in
theorem m_sick (l : Launch) (dC : Nat → ClassId) (dI : Nat → Nat → Nat) (cI cC cZ : ClassId) (sz : Nat) (h0 r_refused r_now r_then r_before r_asIs r_tape r_begins r_kinds r_field r_willTeach r_isBack r_told r_bestSeats r_firstSeats r_restLearn r_marksNow r_row : Nat) (a b : Int32) : Met l yX8_sick wsX8_sick ({ frames := 1, cells := 0, slots := 0, locals := 21 }) (va_Pc [.ref h0, .int a, .int b] (vx_B (dC, dI) (vx_T cI cC cZ) sz [(h0, .inr (6, [.ref r_refused, .ref r_now, .ref r_then, .ref r_before, .ref r_asIs, .int 0, .ref r_tape, .int 0, .int 0, .int 0, .ref r_begins, .ref r_kinds, .int 0, .ref r_field, .ref r_willTeach, .ref r_isBack, .ref r_told, .ref r_bestSeats, .ref r_firstSeats, .int 0, .int 0, .int 0, .int 0, .int 0, .int 0, .int 0, .int 0, .int 0, .ref r_restLearn, .ref r_marksNow, .ref r_row, .int 0, .int 0])), (r_refused, .inl (cI, 7, .inl (fun _ => 0))), (r_now, .inl (cI, 80, .inl (upd (upd (upd (upd (fun _ => 0) 1 2) 3 1) 4 10) 5 1)))])) (va_Qi (fun (r : Int32) (_ : Unit) => r = (-1)) (vx_C (dC, dI) (vx_T cI cC cZ) (va_A [(h0, .inr (6, [.ref r_refused, .ref r_now, .ref r_then, .ref r_before, .ref r_asIs, .int 0, .ref r_tape, .int 0, .int 0, .int 0, .ref r_begins, .ref r_kinds, .int 0, .ref r_field, .ref r_willTeach, .ref r_isBack, .ref r_told, .ref r_bestSeats, .ref r_firstSeats, .int 0, .int 0, .int 0, .int 0, .int 0, .int 0, .int 0, .int 0, .int 0, .ref r_restLearn, .ref r_marksNow, .ref r_row, .int 0, .int 0])), (r_refused, .inl (cI, 7, .inl (fun _ => 0))), (r_now, .inl (cI, 80, .inl (upd (upd (upd (upd (fun _ => 0) 1 2) 3 1) 4 10) 5 1)))] sz) (fun (u : Unit) => [])) (va_A [(h0, .inr (6, [.ref r_refused, .ref r_now, .ref r_then, .ref r_before, .ref r_asIs, .int 0, .ref r_tape, .int 0, .int 0, .int 0, .ref r_begins, .ref r_kinds, .int 0, .ref r_field, .ref r_willTeach, .ref r_isBack, .ref r_told, .ref r_bestSeats, .ref r_firstSeats, .int 0, .int 0, .int 0, .int 0, .int 0, .int 0, .int 0, .int 0, .int 0, .ref r_restLearn, .ref r_marksNow, .ref r_row, .int 0, .int 0])), (r_refused, .inl (cI, 7, .inl (fun _ => 0))), (r_now, .inl (cI, 80, .inl (upd (upd (upd (upd (fun _ => 0) 1 2) 3 1) 4 10) 5 1)))] sz)) 0 0 (va_A [(h0, .inr (6, [.ref r_refused, .ref r_now, .ref r_then, .ref r_before, .ref r_asIs, .int 0, .ref r_tape, .int 0, .int 0, .int 0, .ref r_begins, .ref r_kinds, .int 0, .ref r_field, .ref r_willTeach, .ref r_isBack, .ref r_told, .ref r_bestSeats, .ref r_firstSeats, .int 0, .int 0, .int 0, .int 0, .int 0, .int 0, .int 0, .int 0, .int 0, .ref r_restLearn, .ref r_marksNow, .ref r_row, .int 0, .int 0])), (r_refused, .inl (cI, 7, .inl (fun _ => 0))), (r_now, .inl (cI, 80, .inl (upd (upd (upd (upd (fun _ => 0) 1 2) 3 1) 4 10) 5 1)))] sz) := by
  refine Met.ofW (cc := cX8_sick) (maxL := 4) (ret := (some .int)) (by decide) rfl ?_
  intro p e s m args below meth c s₁ B hml hv
  obtain ⟨rfl, hsz, hP, hK, hD0⟩ := hv
  have hx := B.exec
  have hb := B.bytes
  have hr := B.returns
  have hts := atoms_spec (ws := wsX8_sick) B.pre
  have hown : s.vm.findClass RX8 = some m.cls := findClass_of_methodNamed B.named
  have hlocks := B.notSynchronized
  subst hsz
  have hD := hD0.self (sz := s.heap.size)
  generalize hAe : va_A [(h0, .inr (6, [.ref r_refused, .ref r_now, .ref r_then, .ref r_before, .ref r_asIs, .int 0, .ref r_tape, .int 0, .int 0, .int 0, .ref r_begins, .ref r_kinds, .int 0, .ref r_field, .ref r_willTeach, .ref r_isBack, .ref r_told, .ref r_bestSeats, .ref r_firstSeats, .int 0, .int 0, .int 0, .int 0, .int 0, .int 0, .int 0, .int 0, .int 0, .ref r_restLearn, .ref r_marksNow, .ref r_row, .int 0, .int 0])), (r_refused, .inl (cI, 7, .inl (fun _ => 0))), (r_now, .inl (cI, 80, .inl (upd (upd (upd (upd (fun _ => 0) 1 2) 3 1) 4 10) 5 1)))] s.heap.size = A at hD ⊢
  have hA : ∀ q : Nat, s.heap.size ≤ q → A q := fun q h => by rw [← hAe]; exact Or.inr h
  have hS : va_S A s.heap s.heap [] := va_S.rf
  have hl := lv_entry ([.ref h0, .int a, .int b]) (n := 4) (Nat.le_of_ble_eq_true rfl)
  rw [lg_entry_eq]
  generalize (lg_sl ([.ref h0, .int a, .int b]) ++ List.replicate (4 - (lg_sl ([.ref h0, .int a, .int b])).length) Slot.unset).toArray = ls at hl ⊢
  have hl : lv_has ls 4 [(0, .ref h0), (1, .int a), (2, .int b)] := hl
  refine lv_aload_n hx hb dX8_sick_0 rfl (lv_at hl 0 rfl) ?_
  refine lv_iload_n hx hb dX8_sick_1 rfl (lv_at hl 1 rfl) ?_
  have hPc := hP.sub (ws' := [(h0, .inr (6, [.ref r_refused, .ref r_now, .ref r_then, .ref r_before, .ref r_asIs, .int 0, .ref r_tape, .int 0, .int 0, .int 0, .ref r_begins, .ref r_kinds, .int 0, .ref r_field, .ref r_willTeach, .ref r_isBack, .ref r_told, .ref r_bestSeats, .ref r_firstSeats, .int 0, .int 0, .int 0, .int 0, .int 0, .int 0, .int 0, .int 0, .int 0, .ref r_restLearn, .ref r_marksNow, .ref r_row, .int 0, .int 0])), (r_now, .inl (cI, 80, .inl (upd (upd (upd (upd (fun _ => 0) 1 2) 3 1) 4 10) 5 1)))]) [0, 2] rfl
  have hDc := hD.sub (ws' := [(h0, .inr (6, [.ref r_refused, .ref r_now, .ref r_then, .ref r_before, .ref r_asIs, .int 0, .ref r_tape, .int 0, .int 0, .int 0, .ref r_begins, .ref r_kinds, .int 0, .ref r_field, .ref r_willTeach, .ref r_isBack, .ref r_told, .ref r_bestSeats, .ref r_firstSeats, .int 0, .int 0, .int 0, .int 0, .int 0, .int 0, .int 0, .int 0, .int 0, .ref r_restLearn, .ref r_marksNow, .ref r_row, .int 0, .int 0])), (r_now, .inl (cI, 80, .inl (upd (upd (upd (upd (fun _ => 0) 1 2) 3 1) 4 10) 5 1)))]) [0, 2] (by decide) rfl
  refine vx_calli (wc := [(h0, .inr (6, [.ref r_refused, .ref r_now, .ref r_then, .ref r_before, .ref r_asIs, .int 0, .ref r_tape, .int 0, .int 0, .int 0, .ref r_begins, .ref r_kinds, .int 0, .ref r_field, .ref r_willTeach, .ref r_isBack, .ref r_told, .ref r_bestSeats, .ref r_firstSeats, .int 0, .int 0, .int 0, .int 0, .int 0, .int 0, .int 0, .int 0, .int 0, .ref r_restLearn, .ref r_marksNow, .ref r_row, .int 0, .int 0])), (r_now, .inl (cI, 80, .inl (upd (upd (upd (upd (fun _ => 0) 1 2) 3 1) 4 10) 5 1)))]) (wr := [(r_refused, .inl (cI, 7, .inl (fun _ => 0)))]) hP hD hS hA [0, 2] [1] rfl rfl (by decide) (by decide) (va_runV (As := [.int a]) (rest := []) ⟨hx, hb, hml, hown, hts⟩ (r_isNobody l dC dI cI cC cZ _ h0 r_refused r_now r_then r_before r_asIs r_tape r_begins r_kinds r_field r_willTeach r_isBack r_told r_bestSeats r_firstSeats r_restLearn r_marksNow r_row 0 0 0 0 0 0 0 0 0 0 0 0 0 0 0 0 a (upd (upd (upd (upd (fun _ => 0) 1 2) 3 1) 4 10) 5 1) rfl) (cwV 1 hts gX8_sick_X8_isNobody rfl rfl rfl (by decide +kernel) ⟨Nat.le_of_ble_eq_true rfl, Nat.le_of_ble_eq_true rfl⟩) ⟨vx_blind, va_recv hK hPc (ci := 6) (q0 := 0) rfl rfl, vx_pre hK hPc hDc⟩ rfl rfl hl.1 rfl (lv_room (Nat.le_of_ble_eq_true rfl)) dX8_sick_2 ⟨Nat.le_of_ble_eq_true rfl, Nat.le_of_ble_eq_true rfl⟩) (fun r2 u1 H locs hw3 hP hD hS => ?_)
  have hP : va_P (dC, dI) vwCl [(r_refused, .inl (cI, 7, .inl (fun _ => 0))), (h0, .inr (6, [.ref r_refused, .ref r_now, .ref r_then, .ref r_before, .ref r_asIs, .int 0, .ref r_tape, .int 0, .int 0, .int 0, .ref r_begins, .ref r_kinds, .int 0, .ref r_field, .ref r_willTeach, .ref r_isBack, .ref r_told, .ref r_bestSeats, .ref r_firstSeats, .int 0, .int 0, .int 0, .int 0, .int 0, .int 0, .int 0, .int 0, .int 0, .ref r_restLearn, .ref r_marksNow, .ref r_row, .int 0, .int 0])), (r_now, .inl (cI, 80, .inl (upd (upd (upd (upd (fun _ => 0) 1 2) 3 1) 4 10) 5 1)))] H := hP
  have hD : va_D A [(r_refused, .inl (cI, 7, .inl (fun _ => 0))), (h0, .inr (6, [.ref r_refused, .ref r_now, .ref r_then, .ref r_before, .ref r_asIs, .int 0, .ref r_tape, .int 0, .int 0, .int 0, .ref r_begins, .ref r_kinds, .int 0, .ref r_field, .ref r_willTeach, .ref r_isBack, .ref r_told, .ref r_bestSeats, .ref r_firstSeats, .int 0, .int 0, .int 0, .int 0, .int 0, .int 0, .int 0, .int 0, .int 0, .ref r_restLearn, .ref r_marksNow, .ref r_row, .int 0, .int 0])), (r_now, .inl (cI, 80, .inl (upd (upd (upd (upd (fun _ => 0) 1 2) 3 1) 4 10) 5 1)))] := hD
  have er2 : 1 = r2 := Eq.symm hw3
  subst er2
  refine lv_if_eq (tgt := 14) hx hb dX8_sick_5 (by decide) (fun c0 => absurd c0 (by decide)) (fun _ => ?_)
  refine lv_aload_n hx hb dX8_sick_8 rfl (lv_at hl 0 rfl) ?_
  refine lv_iconst (v := (-1)) hx hb dX8_sick_9 (by decide) ?_
  have hPc := hP.sub (ws' := [(h0, .inr (6, [.ref r_refused, .ref r_now, .ref r_then, .ref r_before, .ref r_asIs, .int 0, .ref r_tape, .int 0, .int 0, .int 0, .ref r_begins, .ref r_kinds, .int 0, .ref r_field, .ref r_willTeach, .ref r_isBack, .ref r_told, .ref r_bestSeats, .ref r_firstSeats, .int 0, .int 0, .int 0, .int 0, .int 0, .int 0, .int 0, .int 0, .int 0, .ref r_restLearn, .ref r_marksNow, .ref r_row, .int 0, .int 0])), (r_refused, .inl (cI, 7, .inl (fun _ => 0)))]) [1, 0] rfl
  have hDc := hD.sub (ws' := [(h0, .inr (6, [.ref r_refused, .ref r_now, .ref r_then, .ref r_before, .ref r_asIs, .int 0, .ref r_tape, .int 0, .int 0, .int 0, .ref r_begins, .ref r_kinds, .int 0, .ref r_field, .ref r_willTeach, .ref r_isBack, .ref r_told, .ref r_bestSeats, .ref r_firstSeats, .int 0, .int 0, .int 0, .int 0, .int 0, .int 0, .int 0, .int 0, .int 0, .ref r_restLearn, .ref r_marksNow, .ref r_row, .int 0, .int 0])), (r_refused, .inl (cI, 7, .inl (fun _ => 0)))]) [1, 0] (by decide) rfl
  refine vx_calli (wc := [(h0, .inr (6, [.ref r_refused, .ref r_now, .ref r_then, .ref r_before, .ref r_asIs, .int 0, .ref r_tape, .int 0, .int 0, .int 0, .ref r_begins, .ref r_kinds, .int 0, .ref r_field, .ref r_willTeach, .ref r_isBack, .ref r_told, .ref r_bestSeats, .ref r_firstSeats, .int 0, .int 0, .int 0, .int 0, .int 0, .int 0, .int 0, .int 0, .int 0, .ref r_restLearn, .ref r_marksNow, .ref r_row, .int 0, .int 0])), (r_refused, .inl (cI, 7, .inl (fun _ => 0)))]) (wr := [(r_now, .inl (cI, 80, .inl (upd (upd (upd (upd (fun _ => 0) 1 2) 3 1) 4 10) 5 1)))]) hP hD hS hA [1, 0] [2] rfl rfl (by decide) (by decide) (va_runV (As := [.int (-1)]) (rest := []) ⟨hx, hb, hml, hown, hts⟩ (r_no1 l dC dI cI cC cZ _ h0 r_refused r_now r_then r_before r_asIs r_tape r_begins r_kinds r_field r_willTeach r_isBack r_told r_bestSeats r_firstSeats r_restLearn r_marksNow r_row 0 0 0 0 0 0 0 0 0 0 0 0 0 0 0 0 0 (fun _ => 0) rfl) (cwV 1 hts gX8_sick_X8_no rfl rfl rfl (by decide +kernel) ⟨Nat.le_of_ble_eq_true rfl, Nat.le_of_ble_eq_true rfl⟩) ⟨vx_blind, va_recv hK hPc (ci := 6) (q0 := 0) rfl rfl, vx_pre hK hPc hDc⟩ rfl rfl hl.1 rfl (lv_room (Nat.le_of_ble_eq_true rfl)) dX8_sick_10 ⟨Nat.le_of_ble_eq_true rfl, Nat.le_of_ble_eq_true rfl⟩) (fun r5 u4 H locs hw6 hP hD hS => ?_)
  have hP : va_P (dC, dI) vwCl [(r_now, .inl (cI, 80, .inl (upd (upd (upd (upd (fun _ => 0) 1 2) 3 1) 4 10) 5 1))), (h0, .inr (6, [.ref r_refused, .ref r_now, .ref r_then, .ref r_before, .ref r_asIs, .int 0, .ref r_tape, .int 0, .int 0, .int 0, .ref r_begins, .ref r_kinds, .int 0, .ref r_field, .ref r_willTeach, .ref r_isBack, .ref r_told, .ref r_bestSeats, .ref r_firstSeats, .int 0, .int 0, .int 0, .int 0, .int 0, .int 0, .int 0, .int 0, .int 0, .ref r_restLearn, .ref r_marksNow, .ref r_row, .int 0, .int 0])), (r_refused, .inl (cI, 7, .inl (upd (fun _ => 0) 1 1)))] H := hP
  have hD : va_D A [(r_now, .inl (cI, 80, .inl (upd (upd (upd (upd (fun _ => 0) 1 2) 3 1) 4 10) 5 1))), (h0, .inr (6, [.ref r_refused, .ref r_now, .ref r_then, .ref r_before, .ref r_asIs, .int 0, .ref r_tape, .int 0, .int 0, .int 0, .ref r_begins, .ref r_kinds, .int 0, .ref r_field, .ref r_willTeach, .ref r_isBack, .ref r_told, .ref r_bestSeats, .ref r_firstSeats, .int 0, .int 0, .int 0, .int 0, .int 0, .int 0, .int 0, .int 0, .int 0, .ref r_restLearn, .ref r_marksNow, .ref r_row, .int 0, .int 0])), (r_refused, .inl (cI, 7, .inl (upd (fun _ => 0) 1 1)))] := hD
  have er5 : (-1) = r5 := Eq.symm hw6
  subst er5
  exact vx_iret (u := ()) hx hb hr hlocks hK hP hD hS [] rfl (by decide) rfl dX8_sick_13
set_option maxHeartbeats 4000000 in
set_option maxRecDepth 100000 in
theorem m_learn (l : Launch) (dC : Nat → ClassId) (dI : Nat → Nat → Nat) (cI cC cZ : ClassId) (sz : Nat) (h0 r_refused r_now r_then r_before r_asIs r_tape r_begins r_kinds r_field r_willTeach r_isBack r_told r_bestSeats r_firstSeats r_restLearn r_marksNow r_row : Nat) (a b : Int32) : Met l yX8_learn wsX8_learn ({ frames := 1, cells := 0, slots := 0, locals := 21 }) (va_Pc [.ref h0, .int a, .int b] (vx_B (dC, dI) (vx_T cI cC cZ) sz [(h0, .inr (6, [.ref r_refused, .ref r_now, .ref r_then, .ref r_before, .ref r_asIs, .int 0, .ref r_tape, .int 0, .int 0, .int 0, .ref r_begins, .ref r_kinds, .int 0, .ref r_field, .ref r_willTeach, .ref r_isBack, .ref r_told, .ref r_bestSeats, .ref r_firstSeats, .int 0, .int 0, .int 0, .int 0, .int 0, .int 0, .int 0, .int 0, .int 0, .ref r_restLearn, .ref r_marksNow, .ref r_row, .int 0, .int 0])), (r_refused, .inl (cI, 7, .inl (fun _ => 0))), (r_now, .inl (cI, 80, .inl (upd (upd (upd (upd (fun _ => 0) 1 2) 3 1) 4 10) 5 1)))])) (va_Qi (fun (r : Int32) (_ : Unit) => r = (-1)) (vx_C (dC, dI) (vx_T cI cC cZ) (va_A [(h0, .inr (6, [.ref r_refused, .ref r_now, .ref r_then, .ref r_before, .ref r_asIs, .int 0, .ref r_tape, .int 0, .int 0, .int 0, .ref r_begins, .ref r_kinds, .int 0, .ref r_field, .ref r_willTeach, .ref r_isBack, .ref r_told, .ref r_bestSeats, .ref r_firstSeats, .int 0, .int 0, .int 0, .int 0, .int 0, .int 0, .int 0, .int 0, .int 0, .ref r_restLearn, .ref r_marksNow, .ref r_row, .int 0, .int 0])), (r_refused, .inl (cI, 7, .inl (fun _ => 0))), (r_now, .inl (cI, 80, .inl (upd (upd (upd (upd (fun _ => 0) 1 2) 3 1) 4 10) 5 1)))] sz) (fun (u : Unit) => [])) (va_A [(h0, .inr (6, [.ref r_refused, .ref r_now, .ref r_then, .ref r_before, .ref r_asIs, .int 0, .ref r_tape, .int 0, .int 0, .int 0, .ref r_begins, .ref r_kinds, .int 0, .ref r_field, .ref r_willTeach, .ref r_isBack, .ref r_told, .ref r_bestSeats, .ref r_firstSeats, .int 0, .int 0, .int 0, .int 0, .int 0, .int 0, .int 0, .int 0, .int 0, .ref r_restLearn, .ref r_marksNow, .ref r_row, .int 0, .int 0])), (r_refused, .inl (cI, 7, .inl (fun _ => 0))), (r_now, .inl (cI, 80, .inl (upd (upd (upd (upd (fun _ => 0) 1 2) 3 1) 4 10) 5 1)))] sz)) 0 0 (va_A [(h0, .inr (6, [.ref r_refused, .ref r_now, .ref r_then, .ref r_before, .ref r_asIs, .int 0, .ref r_tape, .int 0, .int 0, .int 0, .ref r_begins, .ref r_kinds, .int 0, .ref r_field, .ref r_willTeach, .ref r_isBack, .ref r_told, .ref r_bestSeats, .ref r_firstSeats, .int 0, .int 0, .int 0, .int 0, .int 0, .int 0, .int 0, .int 0, .int 0, .ref r_restLearn, .ref r_marksNow, .ref r_row, .int 0, .int 0])), (r_refused, .inl (cI, 7, .inl (fun _ => 0))), (r_now, .inl (cI, 80, .inl (upd (upd (upd (upd (fun _ => 0) 1 2) 3 1) 4 10) 5 1)))] sz) := by
  refine Met.ofW (cc := cX8_learn) (maxL := 4) (ret := (some .int)) (by decide) rfl ?_
  intro p e s m args below meth c s₁ B hml hv
  obtain ⟨rfl, hsz, hP, hK, hD0⟩ := hv
  have hx := B.exec
  have hb := B.bytes
  have hr := B.returns
  have hts := atoms_spec (ws := wsX8_learn) B.pre
  have hown : s.vm.findClass RX8 = some m.cls := findClass_of_methodNamed B.named
  have hlocks := B.notSynchronized
  subst hsz
  have hD := hD0.self (sz := s.heap.size)
  generalize hAe : va_A [(h0, .inr (6, [.ref r_refused, .ref r_now, .ref r_then, .ref r_before, .ref r_asIs, .int 0, .ref r_tape, .int 0, .int 0, .int 0, .ref r_begins, .ref r_kinds, .int 0, .ref r_field, .ref r_willTeach, .ref r_isBack, .ref r_told, .ref r_bestSeats, .ref r_firstSeats, .int 0, .int 0, .int 0, .int 0, .int 0, .int 0, .int 0, .int 0, .int 0, .ref r_restLearn, .ref r_marksNow, .ref r_row, .int 0, .int 0])), (r_refused, .inl (cI, 7, .inl (fun _ => 0))), (r_now, .inl (cI, 80, .inl (upd (upd (upd (upd (fun _ => 0) 1 2) 3 1) 4 10) 5 1)))] s.heap.size = A at hD ⊢
  have hA : ∀ q : Nat, s.heap.size ≤ q → A q := fun q h => by rw [← hAe]; exact Or.inr h
  have hS : va_S A s.heap s.heap [] := va_S.rf
  have hl := lv_entry ([.ref h0, .int a, .int b]) (n := 4) (Nat.le_of_ble_eq_true rfl)
  rw [lg_entry_eq]
  generalize (lg_sl ([.ref h0, .int a, .int b]) ++ List.replicate (4 - (lg_sl ([.ref h0, .int a, .int b])).length) Slot.unset).toArray = ls at hl ⊢
  have hl : lv_has ls 4 [(0, .ref h0), (1, .int a), (2, .int b)] := hl
  refine lv_aload_n hx hb dX8_learn_0 rfl (lv_at hl 0 rfl) ?_
  refine lv_iload_n hx hb dX8_learn_1 rfl (lv_at hl 1 rfl) ?_
  have hPc := hP.sub (ws' := [(h0, .inr (6, [.ref r_refused, .ref r_now, .ref r_then, .ref r_before, .ref r_asIs, .int 0, .ref r_tape, .int 0, .int 0, .int 0, .ref r_begins, .ref r_kinds, .int 0, .ref r_field, .ref r_willTeach, .ref r_isBack, .ref r_told, .ref r_bestSeats, .ref r_firstSeats, .int 0, .int 0, .int 0, .int 0, .int 0, .int 0, .int 0, .int 0, .int 0, .ref r_restLearn, .ref r_marksNow, .ref r_row, .int 0, .int 0])), (r_now, .inl (cI, 80, .inl (upd (upd (upd (upd (fun _ => 0) 1 2) 3 1) 4 10) 5 1)))]) [0, 2] rfl
  have hDc := hD.sub (ws' := [(h0, .inr (6, [.ref r_refused, .ref r_now, .ref r_then, .ref r_before, .ref r_asIs, .int 0, .ref r_tape, .int 0, .int 0, .int 0, .ref r_begins, .ref r_kinds, .int 0, .ref r_field, .ref r_willTeach, .ref r_isBack, .ref r_told, .ref r_bestSeats, .ref r_firstSeats, .int 0, .int 0, .int 0, .int 0, .int 0, .int 0, .int 0, .int 0, .int 0, .ref r_restLearn, .ref r_marksNow, .ref r_row, .int 0, .int 0])), (r_now, .inl (cI, 80, .inl (upd (upd (upd (upd (fun _ => 0) 1 2) 3 1) 4 10) 5 1)))]) [0, 2] (by decide) rfl
  refine vx_calli (wc := [(h0, .inr (6, [.ref r_refused, .ref r_now, .ref r_then, .ref r_before, .ref r_asIs, .int 0, .ref r_tape, .int 0, .int 0, .int 0, .ref r_begins, .ref r_kinds, .int 0, .ref r_field, .ref r_willTeach, .ref r_isBack, .ref r_told, .ref r_bestSeats, .ref r_firstSeats, .int 0, .int 0, .int 0, .int 0, .int 0, .int 0, .int 0, .int 0, .int 0, .ref r_restLearn, .ref r_marksNow, .ref r_row, .int 0, .int 0])), (r_now, .inl (cI, 80, .inl (upd (upd (upd (upd (fun _ => 0) 1 2) 3 1) 4 10) 5 1)))]) (wr := [(r_refused, .inl (cI, 7, .inl (fun _ => 0)))]) hP hD hS hA [0, 2] [1] rfl rfl (by decide) (by decide) (va_runV (As := [.int a]) (rest := []) ⟨hx, hb, hml, hown, hts⟩ (r_isNobody l dC dI cI cC cZ _ h0 r_refused r_now r_then r_before r_asIs r_tape r_begins r_kinds r_field r_willTeach r_isBack r_told r_bestSeats r_firstSeats r_restLearn r_marksNow r_row 0 0 0 0 0 0 0 0 0 0 0 0 0 0 0 0 a (upd (upd (upd (upd (fun _ => 0) 1 2) 3 1) 4 10) 5 1) rfl) (cwV 1 hts gX8_learn_X8_isNobody rfl rfl rfl (by decide +kernel) ⟨Nat.le_of_ble_eq_true rfl, Nat.le_of_ble_eq_true rfl⟩) ⟨vx_blind, va_recv hK hPc (ci := 6) (q0 := 0) rfl rfl, vx_pre hK hPc hDc⟩ rfl rfl hl.1 rfl (lv_room (Nat.le_of_ble_eq_true rfl)) dX8_learn_2 ⟨Nat.le_of_ble_eq_true rfl, Nat.le_of_ble_eq_true rfl⟩) (fun r2 u1 H locs hw3 hP hD hS => ?_)
  have hP : va_P (dC, dI) vwCl [(r_refused, .inl (cI, 7, .inl (fun _ => 0))), (h0, .inr (6, [.ref r_refused, .ref r_now, .ref r_then, .ref r_before, .ref r_asIs, .int 0, .ref r_tape, .int 0, .int 0, .int 0, .ref r_begins, .ref r_kinds, .int 0, .ref r_field, .ref r_willTeach, .ref r_isBack, .ref r_told, .ref r_bestSeats, .ref r_firstSeats, .int 0, .int 0, .int 0, .int 0, .int 0, .int 0, .int 0, .int 0, .int 0, .ref r_restLearn, .ref r_marksNow, .ref r_row, .int 0, .int 0])), (r_now, .inl (cI, 80, .inl (upd (upd (upd (upd (fun _ => 0) 1 2) 3 1) 4 10) 5 1)))] H := hP
  have hD : va_D A [(r_refused, .inl (cI, 7, .inl (fun _ => 0))), (h0, .inr (6, [.ref r_refused, .ref r_now, .ref r_then, .ref r_before, .ref r_asIs, .int 0, .ref r_tape, .int 0, .int 0, .int 0, .ref r_begins, .ref r_kinds, .int 0, .ref r_field, .ref r_willTeach, .ref r_isBack, .ref r_told, .ref r_bestSeats, .ref r_firstSeats, .int 0, .int 0, .int 0, .int 0, .int 0, .int 0, .int 0, .int 0, .int 0, .ref r_restLearn, .ref r_marksNow, .ref r_row, .int 0, .int 0])), (r_now, .inl (cI, 80, .inl (upd (upd (upd (upd (fun _ => 0) 1 2) 3 1) 4 10) 5 1)))] := hD
  have er2 : 1 = r2 := Eq.symm hw3
  subst er2
  refine lv_if_eq (tgt := 14) hx hb dX8_learn_5 (by decide) (fun c0 => absurd c0 (by decide)) (fun _ => ?_)
  refine lv_aload_n hx hb dX8_learn_8 rfl (lv_at hl 0 rfl) ?_
  refine lv_iconst (v := (-1)) hx hb dX8_learn_9 (by decide) ?_
  have hPc := hP.sub (ws' := [(h0, .inr (6, [.ref r_refused, .ref r_now, .ref r_then, .ref r_before, .ref r_asIs, .int 0, .ref r_tape, .int 0, .int 0, .int 0, .ref r_begins, .ref r_kinds, .int 0, .ref r_field, .ref r_willTeach, .ref r_isBack, .ref r_told, .ref r_bestSeats, .ref r_firstSeats, .int 0, .int 0, .int 0, .int 0, .int 0, .int 0, .int 0, .int 0, .int 0, .ref r_restLearn, .ref r_marksNow, .ref r_row, .int 0, .int 0])), (r_refused, .inl (cI, 7, .inl (fun _ => 0)))]) [1, 0] rfl
  have hDc := hD.sub (ws' := [(h0, .inr (6, [.ref r_refused, .ref r_now, .ref r_then, .ref r_before, .ref r_asIs, .int 0, .ref r_tape, .int 0, .int 0, .int 0, .ref r_begins, .ref r_kinds, .int 0, .ref r_field, .ref r_willTeach, .ref r_isBack, .ref r_told, .ref r_bestSeats, .ref r_firstSeats, .int 0, .int 0, .int 0, .int 0, .int 0, .int 0, .int 0, .int 0, .int 0, .ref r_restLearn, .ref r_marksNow, .ref r_row, .int 0, .int 0])), (r_refused, .inl (cI, 7, .inl (fun _ => 0)))]) [1, 0] (by decide) rfl
  refine vx_calli (wc := [(h0, .inr (6, [.ref r_refused, .ref r_now, .ref r_then, .ref r_before, .ref r_asIs, .int 0, .ref r_tape, .int 0, .int 0, .int 0, .ref r_begins, .ref r_kinds, .int 0, .ref r_field, .ref r_willTeach, .ref r_isBack, .ref r_told, .ref r_bestSeats, .ref r_firstSeats, .int 0, .int 0, .int 0, .int 0, .int 0, .int 0, .int 0, .int 0, .int 0, .ref r_restLearn, .ref r_marksNow, .ref r_row, .int 0, .int 0])), (r_refused, .inl (cI, 7, .inl (fun _ => 0)))]) (wr := [(r_now, .inl (cI, 80, .inl (upd (upd (upd (upd (fun _ => 0) 1 2) 3 1) 4 10) 5 1)))]) hP hD hS hA [1, 0] [2] rfl rfl (by decide) (by decide) (va_runV (As := [.int (-1)]) (rest := []) ⟨hx, hb, hml, hown, hts⟩ (r_no1 l dC dI cI cC cZ _ h0 r_refused r_now r_then r_before r_asIs r_tape r_begins r_kinds r_field r_willTeach r_isBack r_told r_bestSeats r_firstSeats r_restLearn r_marksNow r_row 0 0 0 0 0 0 0 0 0 0 0 0 0 0 0 0 0 (fun _ => 0) rfl) (cwV 1 hts gX8_learn_X8_no rfl rfl rfl (by decide +kernel) ⟨Nat.le_of_ble_eq_true rfl, Nat.le_of_ble_eq_true rfl⟩) ⟨vx_blind, va_recv hK hPc (ci := 6) (q0 := 0) rfl rfl, vx_pre hK hPc hDc⟩ rfl rfl hl.1 rfl (lv_room (Nat.le_of_ble_eq_true rfl)) dX8_learn_10 ⟨Nat.le_of_ble_eq_true rfl, Nat.le_of_ble_eq_true rfl⟩) (fun r5 u4 H locs hw6 hP hD hS => ?_)
  have hP : va_P (dC, dI) vwCl [(r_now, .inl (cI, 80, .inl (upd (upd (upd (upd (fun _ => 0) 1 2) 3 1) 4 10) 5 1))), (h0, .inr (6, [.ref r_refused, .ref r_now, .ref r_then, .ref r_before, .ref r_asIs, .int 0, .ref r_tape, .int 0, .int 0, .int 0, .ref r_begins, .ref r_kinds, .int 0, .ref r_field, .ref r_willTeach, .ref r_isBack, .ref r_told, .ref r_bestSeats, .ref r_firstSeats, .int 0, .int 0, .int 0, .int 0, .int 0, .int 0, .int 0, .int 0, .int 0, .ref r_restLearn, .ref r_marksNow, .ref r_row, .int 0, .int 0])), (r_refused, .inl (cI, 7, .inl (upd (fun _ => 0) 1 1)))] H := hP
  have hD : va_D A [(r_now, .inl (cI, 80, .inl (upd (upd (upd (upd (fun _ => 0) 1 2) 3 1) 4 10) 5 1))), (h0, .inr (6, [.ref r_refused, .ref r_now, .ref r_then, .ref r_before, .ref r_asIs, .int 0, .ref r_tape, .int 0, .int 0, .int 0, .ref r_begins, .ref r_kinds, .int 0, .ref r_field, .ref r_willTeach, .ref r_isBack, .ref r_told, .ref r_bestSeats, .ref r_firstSeats, .int 0, .int 0, .int 0, .int 0, .int 0, .int 0, .int 0, .int 0, .int 0, .ref r_restLearn, .ref r_marksNow, .ref r_row, .int 0, .int 0])), (r_refused, .inl (cI, 7, .inl (upd (fun _ => 0) 1 1)))] := hD
  have er5 : (-1) = r5 := Eq.symm hw6
  subst er5
  exact vx_iret (u := ()) hx hb hr hlocks hK hP hD hS [] rfl (by decide) rfl dX8_learn_13
set_option maxHeartbeats 4000000 in
set_option maxRecDepth 100000 in
theorem m_swap (l : Launch) (dC : Nat → ClassId) (dI : Nat → Nat → Nat) (cI cC cZ : ClassId) (sz : Nat) (h0 r_refused r_now r_then r_before r_asIs r_tape r_begins r_kinds r_field r_willTeach r_isBack r_told r_bestSeats r_firstSeats r_restLearn r_marksNow r_row : Nat) (a b : Int32) : Met l yX8_swap wsX8_swap ({ frames := 1, cells := 0, slots := 0, locals := 21 }) (va_Pc [.ref h0, .int a, .int b] (vx_B (dC, dI) (vx_T cI cC cZ) sz [(h0, .inr (6, [.ref r_refused, .ref r_now, .ref r_then, .ref r_before, .ref r_asIs, .int 0, .ref r_tape, .int 0, .int 0, .int 0, .ref r_begins, .ref r_kinds, .int 0, .ref r_field, .ref r_willTeach, .ref r_isBack, .ref r_told, .ref r_bestSeats, .ref r_firstSeats, .int 0, .int 0, .int 0, .int 0, .int 0, .int 0, .int 0, .int 0, .int 0, .ref r_restLearn, .ref r_marksNow, .ref r_row, .int 0, .int 0])), (r_refused, .inl (cI, 7, .inl (fun _ => 0))), (r_now, .inl (cI, 80, .inl (upd (upd (upd (upd (fun _ => 0) 1 2) 3 1) 4 10) 5 1)))])) (va_Qi (fun (r : Int32) (_ : Unit) => r = (-1)) (vx_C (dC, dI) (vx_T cI cC cZ) (va_A [(h0, .inr (6, [.ref r_refused, .ref r_now, .ref r_then, .ref r_before, .ref r_asIs, .int 0, .ref r_tape, .int 0, .int 0, .int 0, .ref r_begins, .ref r_kinds, .int 0, .ref r_field, .ref r_willTeach, .ref r_isBack, .ref r_told, .ref r_bestSeats, .ref r_firstSeats, .int 0, .int 0, .int 0, .int 0, .int 0, .int 0, .int 0, .int 0, .int 0, .ref r_restLearn, .ref r_marksNow, .ref r_row, .int 0, .int 0])), (r_refused, .inl (cI, 7, .inl (fun _ => 0))), (r_now, .inl (cI, 80, .inl (upd (upd (upd (upd (fun _ => 0) 1 2) 3 1) 4 10) 5 1)))] sz) (fun (u : Unit) => [])) (va_A [(h0, .inr (6, [.ref r_refused, .ref r_now, .ref r_then, .ref r_before, .ref r_asIs, .int 0, .ref r_tape, .int 0, .int 0, .int 0, .ref r_begins, .ref r_kinds, .int 0, .ref r_field, .ref r_willTeach, .ref r_isBack, .ref r_told, .ref r_bestSeats, .ref r_firstSeats, .int 0, .int 0, .int 0, .int 0, .int 0, .int 0, .int 0, .int 0, .int 0, .ref r_restLearn, .ref r_marksNow, .ref r_row, .int 0, .int 0])), (r_refused, .inl (cI, 7, .inl (fun _ => 0))), (r_now, .inl (cI, 80, .inl (upd (upd (upd (upd (fun _ => 0) 1 2) 3 1) 4 10) 5 1)))] sz)) 0 0 (va_A [(h0, .inr (6, [.ref r_refused, .ref r_now, .ref r_then, .ref r_before, .ref r_asIs, .int 0, .ref r_tape, .int 0, .int 0, .int 0, .ref r_begins, .ref r_kinds, .int 0, .ref r_field, .ref r_willTeach, .ref r_isBack, .ref r_told, .ref r_bestSeats, .ref r_firstSeats, .int 0, .int 0, .int 0, .int 0, .int 0, .int 0, .int 0, .int 0, .int 0, .ref r_restLearn, .ref r_marksNow, .ref r_row, .int 0, .int 0])), (r_refused, .inl (cI, 7, .inl (fun _ => 0))), (r_now, .inl (cI, 80, .inl (upd (upd (upd (upd (fun _ => 0) 1 2) 3 1) 4 10) 5 1)))] sz) := by
  refine Met.ofW (cc := cX8_swap) (maxL := 3) (ret := (some .int)) (by decide) rfl ?_
  intro p e s m args below meth c s₁ B hml hv
  obtain ⟨rfl, hsz, hP, hK, hD0⟩ := hv
  have hx := B.exec
  have hb := B.bytes
  have hr := B.returns
  have hts := atoms_spec (ws := wsX8_swap) B.pre
  have hown : s.vm.findClass RX8 = some m.cls := findClass_of_methodNamed B.named
  have hlocks := B.notSynchronized
  subst hsz
  have hD := hD0.self (sz := s.heap.size)
  generalize hAe : va_A [(h0, .inr (6, [.ref r_refused, .ref r_now, .ref r_then, .ref r_before, .ref r_asIs, .int 0, .ref r_tape, .int 0, .int 0, .int 0, .ref r_begins, .ref r_kinds, .int 0, .ref r_field, .ref r_willTeach, .ref r_isBack, .ref r_told, .ref r_bestSeats, .ref r_firstSeats, .int 0, .int 0, .int 0, .int 0, .int 0, .int 0, .int 0, .int 0, .int 0, .ref r_restLearn, .ref r_marksNow, .ref r_row, .int 0, .int 0])), (r_refused, .inl (cI, 7, .inl (fun _ => 0))), (r_now, .inl (cI, 80, .inl (upd (upd (upd (upd (fun _ => 0) 1 2) 3 1) 4 10) 5 1)))] s.heap.size = A at hD ⊢
  have hA : ∀ q : Nat, s.heap.size ≤ q → A q := fun q h => by rw [← hAe]; exact Or.inr h
  have hS : va_S A s.heap s.heap [] := va_S.rf
  have hl := lv_entry ([.ref h0, .int a, .int b]) (n := 3) (Nat.le_of_ble_eq_true rfl)
  rw [lg_entry_eq]
  generalize (lg_sl ([.ref h0, .int a, .int b]) ++ List.replicate (3 - (lg_sl ([.ref h0, .int a, .int b])).length) Slot.unset).toArray = ls at hl ⊢
  have hl : lv_has ls 3 [(0, .ref h0), (1, .int a), (2, .int b)] := hl
  refine lv_aload_n hx hb dX8_swap_0 rfl (lv_at hl 0 rfl) ?_
  refine lv_iload_n hx hb dX8_swap_1 rfl (lv_at hl 1 rfl) ?_
  have hPc := hP.sub (ws' := [(h0, .inr (6, [.ref r_refused, .ref r_now, .ref r_then, .ref r_before, .ref r_asIs, .int 0, .ref r_tape, .int 0, .int 0, .int 0, .ref r_begins, .ref r_kinds, .int 0, .ref r_field, .ref r_willTeach, .ref r_isBack, .ref r_told, .ref r_bestSeats, .ref r_firstSeats, .int 0, .int 0, .int 0, .int 0, .int 0, .int 0, .int 0, .int 0, .int 0, .ref r_restLearn, .ref r_marksNow, .ref r_row, .int 0, .int 0])), (r_now, .inl (cI, 80, .inl (upd (upd (upd (upd (fun _ => 0) 1 2) 3 1) 4 10) 5 1)))]) [0, 2] rfl
  have hDc := hD.sub (ws' := [(h0, .inr (6, [.ref r_refused, .ref r_now, .ref r_then, .ref r_before, .ref r_asIs, .int 0, .ref r_tape, .int 0, .int 0, .int 0, .ref r_begins, .ref r_kinds, .int 0, .ref r_field, .ref r_willTeach, .ref r_isBack, .ref r_told, .ref r_bestSeats, .ref r_firstSeats, .int 0, .int 0, .int 0, .int 0, .int 0, .int 0, .int 0, .int 0, .int 0, .ref r_restLearn, .ref r_marksNow, .ref r_row, .int 0, .int 0])), (r_now, .inl (cI, 80, .inl (upd (upd (upd (upd (fun _ => 0) 1 2) 3 1) 4 10) 5 1)))]) [0, 2] (by decide) rfl
  refine vx_calli (wc := [(h0, .inr (6, [.ref r_refused, .ref r_now, .ref r_then, .ref r_before, .ref r_asIs, .int 0, .ref r_tape, .int 0, .int 0, .int 0, .ref r_begins, .ref r_kinds, .int 0, .ref r_field, .ref r_willTeach, .ref r_isBack, .ref r_told, .ref r_bestSeats, .ref r_firstSeats, .int 0, .int 0, .int 0, .int 0, .int 0, .int 0, .int 0, .int 0, .int 0, .ref r_restLearn, .ref r_marksNow, .ref r_row, .int 0, .int 0])), (r_now, .inl (cI, 80, .inl (upd (upd (upd (upd (fun _ => 0) 1 2) 3 1) 4 10) 5 1)))]) (wr := [(r_refused, .inl (cI, 7, .inl (fun _ => 0)))]) hP hD hS hA [0, 2] [1] rfl rfl (by decide) (by decide) (va_runV (As := [.int a]) (rest := []) ⟨hx, hb, hml, hown, hts⟩ (r_isNobody l dC dI cI cC cZ _ h0 r_refused r_now r_then r_before r_asIs r_tape r_begins r_kinds r_field r_willTeach r_isBack r_told r_bestSeats r_firstSeats r_restLearn r_marksNow r_row 0 0 0 0 0 0 0 0 0 0 0 0 0 0 0 0 a (upd (upd (upd (upd (fun _ => 0) 1 2) 3 1) 4 10) 5 1) rfl) (cwV 1 hts gX8_swap_X8_isNobody rfl rfl rfl (by decide +kernel) ⟨Nat.le_of_ble_eq_true rfl, Nat.le_of_ble_eq_true rfl⟩) ⟨vx_blind, va_recv hK hPc (ci := 6) (q0 := 0) rfl rfl, vx_pre hK hPc hDc⟩ rfl rfl hl.1 rfl (lv_room (Nat.le_of_ble_eq_true rfl)) dX8_swap_2 ⟨Nat.le_of_ble_eq_true rfl, Nat.le_of_ble_eq_true rfl⟩) (fun r2 u1 H locs hw3 hP hD hS => ?_)
  have hP : va_P (dC, dI) vwCl [(r_refused, .inl (cI, 7, .inl (fun _ => 0))), (h0, .inr (6, [.ref r_refused, .ref r_now, .ref r_then, .ref r_before, .ref r_asIs, .int 0, .ref r_tape, .int 0, .int 0, .int 0, .ref r_begins, .ref r_kinds, .int 0, .ref r_field, .ref r_willTeach, .ref r_isBack, .ref r_told, .ref r_bestSeats, .ref r_firstSeats, .int 0, .int 0, .int 0, .int 0, .int 0, .int 0, .int 0, .int 0, .int 0, .ref r_restLearn, .ref r_marksNow, .ref r_row, .int 0, .int 0])), (r_now, .inl (cI, 80, .inl (upd (upd (upd (upd (fun _ => 0) 1 2) 3 1) 4 10) 5 1)))] H := hP
  have hD : va_D A [(r_refused, .inl (cI, 7, .inl (fun _ => 0))), (h0, .inr (6, [.ref r_refused, .ref r_now, .ref r_then, .ref r_before, .ref r_asIs, .int 0, .ref r_tape, .int 0, .int 0, .int 0, .ref r_begins, .ref r_kinds, .int 0, .ref r_field, .ref r_willTeach, .ref r_isBack, .ref r_told, .ref r_bestSeats, .ref r_firstSeats, .int 0, .int 0, .int 0, .int 0, .int 0, .int 0, .int 0, .int 0, .int 0, .ref r_restLearn, .ref r_marksNow, .ref r_row, .int 0, .int 0])), (r_now, .inl (cI, 80, .inl (upd (upd (upd (upd (fun _ => 0) 1 2) 3 1) 4 10) 5 1)))] := hD
  have er2 : 1 = r2 := Eq.symm hw3
  subst er2
  refine lv_if_ne (tgt := 21) hx hb dX8_swap_5 (by decide) (fun _ => ?_) (fun c0 => absurd c0 (by decide))
  refine lv_aload_n hx hb dX8_swap_21 rfl (lv_at hl 0 rfl) ?_
  refine lv_iconst (v := (-1)) hx hb dX8_swap_22 (by decide) ?_
  have hPc := hP.sub (ws' := [(h0, .inr (6, [.ref r_refused, .ref r_now, .ref r_then, .ref r_before, .ref r_asIs, .int 0, .ref r_tape, .int 0, .int 0, .int 0, .ref r_begins, .ref r_kinds, .int 0, .ref r_field, .ref r_willTeach, .ref r_isBack, .ref r_told, .ref r_bestSeats, .ref r_firstSeats, .int 0, .int 0, .int 0, .int 0, .int 0, .int 0, .int 0, .int 0, .int 0, .ref r_restLearn, .ref r_marksNow, .ref r_row, .int 0, .int 0])), (r_refused, .inl (cI, 7, .inl (fun _ => 0)))]) [1, 0] rfl
  have hDc := hD.sub (ws' := [(h0, .inr (6, [.ref r_refused, .ref r_now, .ref r_then, .ref r_before, .ref r_asIs, .int 0, .ref r_tape, .int 0, .int 0, .int 0, .ref r_begins, .ref r_kinds, .int 0, .ref r_field, .ref r_willTeach, .ref r_isBack, .ref r_told, .ref r_bestSeats, .ref r_firstSeats, .int 0, .int 0, .int 0, .int 0, .int 0, .int 0, .int 0, .int 0, .int 0, .ref r_restLearn, .ref r_marksNow, .ref r_row, .int 0, .int 0])), (r_refused, .inl (cI, 7, .inl (fun _ => 0)))]) [1, 0] (by decide) rfl
  refine vx_calli (wc := [(h0, .inr (6, [.ref r_refused, .ref r_now, .ref r_then, .ref r_before, .ref r_asIs, .int 0, .ref r_tape, .int 0, .int 0, .int 0, .ref r_begins, .ref r_kinds, .int 0, .ref r_field, .ref r_willTeach, .ref r_isBack, .ref r_told, .ref r_bestSeats, .ref r_firstSeats, .int 0, .int 0, .int 0, .int 0, .int 0, .int 0, .int 0, .int 0, .int 0, .ref r_restLearn, .ref r_marksNow, .ref r_row, .int 0, .int 0])), (r_refused, .inl (cI, 7, .inl (fun _ => 0)))]) (wr := [(r_now, .inl (cI, 80, .inl (upd (upd (upd (upd (fun _ => 0) 1 2) 3 1) 4 10) 5 1)))]) hP hD hS hA [1, 0] [2] rfl rfl (by decide) (by decide) (va_runV (As := [.int (-1)]) (rest := []) ⟨hx, hb, hml, hown, hts⟩ (r_no1 l dC dI cI cC cZ _ h0 r_refused r_now r_then r_before r_asIs r_tape r_begins r_kinds r_field r_willTeach r_isBack r_told r_bestSeats r_firstSeats r_restLearn r_marksNow r_row 0 0 0 0 0 0 0 0 0 0 0 0 0 0 0 0 0 (fun _ => 0) rfl) (cwV 1 hts gX8_swap_X8_no rfl rfl rfl (by decide +kernel) ⟨Nat.le_of_ble_eq_true rfl, Nat.le_of_ble_eq_true rfl⟩) ⟨vx_blind, va_recv hK hPc (ci := 6) (q0 := 0) rfl rfl, vx_pre hK hPc hDc⟩ rfl rfl hl.1 rfl (lv_room (Nat.le_of_ble_eq_true rfl)) dX8_swap_23 ⟨Nat.le_of_ble_eq_true rfl, Nat.le_of_ble_eq_true rfl⟩) (fun r5 u4 H locs hw6 hP hD hS => ?_)
  have hP : va_P (dC, dI) vwCl [(r_now, .inl (cI, 80, .inl (upd (upd (upd (upd (fun _ => 0) 1 2) 3 1) 4 10) 5 1))), (h0, .inr (6, [.ref r_refused, .ref r_now, .ref r_then, .ref r_before, .ref r_asIs, .int 0, .ref r_tape, .int 0, .int 0, .int 0, .ref r_begins, .ref r_kinds, .int 0, .ref r_field, .ref r_willTeach, .ref r_isBack, .ref r_told, .ref r_bestSeats, .ref r_firstSeats, .int 0, .int 0, .int 0, .int 0, .int 0, .int 0, .int 0, .int 0, .int 0, .ref r_restLearn, .ref r_marksNow, .ref r_row, .int 0, .int 0])), (r_refused, .inl (cI, 7, .inl (upd (fun _ => 0) 1 1)))] H := hP
  have hD : va_D A [(r_now, .inl (cI, 80, .inl (upd (upd (upd (upd (fun _ => 0) 1 2) 3 1) 4 10) 5 1))), (h0, .inr (6, [.ref r_refused, .ref r_now, .ref r_then, .ref r_before, .ref r_asIs, .int 0, .ref r_tape, .int 0, .int 0, .int 0, .ref r_begins, .ref r_kinds, .int 0, .ref r_field, .ref r_willTeach, .ref r_isBack, .ref r_told, .ref r_bestSeats, .ref r_firstSeats, .int 0, .int 0, .int 0, .int 0, .int 0, .int 0, .int 0, .int 0, .int 0, .ref r_restLearn, .ref r_marksNow, .ref r_row, .int 0, .int 0])), (r_refused, .inl (cI, 7, .inl (upd (fun _ => 0) 1 1)))] := hD
  have er5 : (-1) = r5 := Eq.symm hw6
  subst er5
  exact vx_iret (u := ()) hx hb hr hlocks hK hP hD hS [] rfl (by decide) rfl dX8_swap_26
theorem zz_m_law_0 (a : Int32) (h0 : a < (0 : Int32)) : ((-2) : Int32) = f_law a := by
  have e0 : ((-2) : Int32).toInt = -2 := by decide
  have e1 : (0 : Int32).toInt = 0 := by decide
  have e2 : (1 : Int32).toInt = 1 := by decide
  have e3 : (6 : Int32).toInt = 6 := by decide
  have e4 : (32 : Int32).toInt = 32 := by decide
  unfold f_law
  (repeat' split) <;> first | rfl | (exfalso; simp only [Int32.lt_iff_toInt_lt, Int32.le_iff_toInt_le, ← Int32.toInt_inj, e0, e1, e2, e3, e4] at * <;> omega)
theorem zz_m_law_1 (a : Int32) (h0 : ¬ a < (0 : Int32)) (h1 : a ≤ (6 : Int32)) : (1 : Int32) = f_law a := by
  have e0 : ((-2) : Int32).toInt = -2 := by decide
  have e1 : (0 : Int32).toInt = 0 := by decide
  have e2 : (1 : Int32).toInt = 1 := by decide
  have e3 : (6 : Int32).toInt = 6 := by decide
  have e4 : (32 : Int32).toInt = 32 := by decide
  unfold f_law
  (repeat' split) <;> first | rfl | (exfalso; simp only [Int32.lt_iff_toInt_lt, Int32.le_iff_toInt_le, ← Int32.toInt_inj, e0, e1, e2, e3, e4] at * <;> omega)
theorem zz_m_law_2 (a : Int32) (h0 : ¬ a < (0 : Int32)) (h1 : ¬ a ≤ (6 : Int32)) : ((-2) : Int32) = f_law a := by
  have e0 : ((-2) : Int32).toInt = -2 := by decide
  have e1 : (0 : Int32).toInt = 0 := by decide
  have e2 : (1 : Int32).toInt = 1 := by decide
  have e3 : (6 : Int32).toInt = 6 := by decide
  have e4 : (32 : Int32).toInt = 32 := by decide
  unfold f_law
  (repeat' split) <;> first | rfl | (exfalso; simp only [Int32.lt_iff_toInt_lt, Int32.le_iff_toInt_le, ← Int32.toInt_inj, e0, e1, e2, e3, e4] at * <;> omega)
set_option maxHeartbeats 4000000 in
set_option maxRecDepth 100000 in
theorem m_law (l : Launch) (dC : Nat → ClassId) (dI : Nat → Nat → Nat) (cI cC cZ : ClassId) (sz : Nat) (h0 r_refused r_now r_then r_before r_asIs r_tape r_begins r_kinds r_field r_willTeach r_isBack r_told r_bestSeats r_firstSeats r_restLearn r_marksNow r_row : Nat) (a : Int32) : Met l yX8_law wsX8_law ({ frames := 1, cells := 0, slots := 0, locals := 21 }) (va_Pc [.ref h0, .int a] (vx_B (dC, dI) (vx_T cI cC cZ) sz [(h0, .inr (6, [.ref r_refused, .ref r_now, .ref r_then, .ref r_before, .ref r_asIs, .int 0, .ref r_tape, .int 0, .int 0, .int 0, .ref r_begins, .ref r_kinds, .int 0, .ref r_field, .ref r_willTeach, .ref r_isBack, .ref r_told, .ref r_bestSeats, .ref r_firstSeats, .int 0, .int 0, .int 0, .int 0, .int 0, .int 0, .int 0, .int 0, .int 0, .ref r_restLearn, .ref r_marksNow, .ref r_row, .int 0, .int 0])), (r_refused, .inl (cI, 7, .inl (fun _ => 0))), (r_now, .inl (cI, 80, .inl (upd (upd (upd (upd (fun _ => 0) 1 2) 3 1) 4 10) 5 1)))])) (va_Qi (fun (r : Int32) (_ : Unit) => r = f_law a) (vx_C (dC, dI) (vx_T cI cC cZ) (va_A [(h0, .inr (6, [.ref r_refused, .ref r_now, .ref r_then, .ref r_before, .ref r_asIs, .int 0, .ref r_tape, .int 0, .int 0, .int 0, .ref r_begins, .ref r_kinds, .int 0, .ref r_field, .ref r_willTeach, .ref r_isBack, .ref r_told, .ref r_bestSeats, .ref r_firstSeats, .int 0, .int 0, .int 0, .int 0, .int 0, .int 0, .int 0, .int 0, .int 0, .ref r_restLearn, .ref r_marksNow, .ref r_row, .int 0, .int 0])), (r_refused, .inl (cI, 7, .inl (fun _ => 0))), (r_now, .inl (cI, 80, .inl (upd (upd (upd (upd (fun _ => 0) 1 2) 3 1) 4 10) 5 1)))] sz) (fun (u : Unit) => [])) (va_A [(h0, .inr (6, [.ref r_refused, .ref r_now, .ref r_then, .ref r_before, .ref r_asIs, .int 0, .ref r_tape, .int 0, .int 0, .int 0, .ref r_begins, .ref r_kinds, .int 0, .ref r_field, .ref r_willTeach, .ref r_isBack, .ref r_told, .ref r_bestSeats, .ref r_firstSeats, .int 0, .int 0, .int 0, .int 0, .int 0, .int 0, .int 0, .int 0, .int 0, .ref r_restLearn, .ref r_marksNow, .ref r_row, .int 0, .int 0])), (r_refused, .inl (cI, 7, .inl (fun _ => 0))), (r_now, .inl (cI, 80, .inl (upd (upd (upd (upd (fun _ => 0) 1 2) 3 1) 4 10) 5 1)))] sz)) 0 0 (va_A [(h0, .inr (6, [.ref r_refused, .ref r_now, .ref r_then, .ref r_before, .ref r_asIs, .int 0, .ref r_tape, .int 0, .int 0, .int 0, .ref r_begins, .ref r_kinds, .int 0, .ref r_field, .ref r_willTeach, .ref r_isBack, .ref r_told, .ref r_bestSeats, .ref r_firstSeats, .int 0, .int 0, .int 0, .int 0, .int 0, .int 0, .int 0, .int 0, .int 0, .ref r_restLearn, .ref r_marksNow, .ref r_row, .int 0, .int 0])), (r_refused, .inl (cI, 7, .inl (fun _ => 0))), (r_now, .inl (cI, 80, .inl (upd (upd (upd (upd (fun _ => 0) 1 2) 3 1) 4 10) 5 1)))] sz) := by
  refine Met.ofW (cc := cX8_law) (maxL := 3) (ret := (some .int)) (by decide) rfl ?_
  intro p e s m args below meth c s₁ B hml hv
  obtain ⟨rfl, hsz, hP, hK, hD0⟩ := hv
  have hx := B.exec
  have hb := B.bytes
  have hr := B.returns
  have hts := atoms_spec (ws := wsX8_law) B.pre
  have hown : s.vm.findClass RX8 = some m.cls := findClass_of_methodNamed B.named
  have hlocks := B.notSynchronized
  subst hsz
  have hD := hD0.self (sz := s.heap.size)
  generalize hAe : va_A [(h0, .inr (6, [.ref r_refused, .ref r_now, .ref r_then, .ref r_before, .ref r_asIs, .int 0, .ref r_tape, .int 0, .int 0, .int 0, .ref r_begins, .ref r_kinds, .int 0, .ref r_field, .ref r_willTeach, .ref r_isBack, .ref r_told, .ref r_bestSeats, .ref r_firstSeats, .int 0, .int 0, .int 0, .int 0, .int 0, .int 0, .int 0, .int 0, .int 0, .ref r_restLearn, .ref r_marksNow, .ref r_row, .int 0, .int 0])), (r_refused, .inl (cI, 7, .inl (fun _ => 0))), (r_now, .inl (cI, 80, .inl (upd (upd (upd (upd (fun _ => 0) 1 2) 3 1) 4 10) 5 1)))] s.heap.size = A at hD ⊢
  have hA : ∀ q : Nat, s.heap.size ≤ q → A q := fun q h => by rw [← hAe]; exact Or.inr h
  have hS : va_S A s.heap s.heap [] := va_S.rf
  have hl := lv_entry ([.ref h0, .int a]) (n := 3) (Nat.le_of_ble_eq_true rfl)
  rw [lg_entry_eq]
  generalize (lg_sl ([.ref h0, .int a]) ++ List.replicate (3 - (lg_sl ([.ref h0, .int a])).length) Slot.unset).toArray = ls at hl ⊢
  have hl : lv_has ls 3 [(0, .ref h0), (1, .int a)] := hl
  have iX8 : ∀ w ∈ u_ws RX8 TX8 33, w ∈ wsX8_law := by decide +kernel
  refine lv_iload_n hx hb dX8_law_0 rfl (lv_at hl 1 rfl) ?_
  refine lv_if_lt (tgt := 10) hx hb dX8_law_1 (by decide) (fun c1 => ?_) (fun c1 => ?_)
  · skip
    refine lv_aload_n hx hb dX8_law_10 rfl (lv_at hl 0 rfl) ?_
    refine lv_bipush (v := (-2)) hx hb dX8_law_11 (by decide) ?_
    have hPc := hP.sub (ws' := [(h0, .inr (6, [.ref r_refused, .ref r_now, .ref r_then, .ref r_before, .ref r_asIs, .int 0, .ref r_tape, .int 0, .int 0, .int 0, .ref r_begins, .ref r_kinds, .int 0, .ref r_field, .ref r_willTeach, .ref r_isBack, .ref r_told, .ref r_bestSeats, .ref r_firstSeats, .int 0, .int 0, .int 0, .int 0, .int 0, .int 0, .int 0, .int 0, .int 0, .ref r_restLearn, .ref r_marksNow, .ref r_row, .int 0, .int 0])), (r_refused, .inl (cI, 7, .inl (fun _ => 0)))]) [0, 1] rfl
    have hDc := hD.sub (ws' := [(h0, .inr (6, [.ref r_refused, .ref r_now, .ref r_then, .ref r_before, .ref r_asIs, .int 0, .ref r_tape, .int 0, .int 0, .int 0, .ref r_begins, .ref r_kinds, .int 0, .ref r_field, .ref r_willTeach, .ref r_isBack, .ref r_told, .ref r_bestSeats, .ref r_firstSeats, .int 0, .int 0, .int 0, .int 0, .int 0, .int 0, .int 0, .int 0, .int 0, .ref r_restLearn, .ref r_marksNow, .ref r_row, .int 0, .int 0])), (r_refused, .inl (cI, 7, .inl (fun _ => 0)))]) [0, 1] (by decide) rfl
    refine vx_calli (wc := [(h0, .inr (6, [.ref r_refused, .ref r_now, .ref r_then, .ref r_before, .ref r_asIs, .int 0, .ref r_tape, .int 0, .int 0, .int 0, .ref r_begins, .ref r_kinds, .int 0, .ref r_field, .ref r_willTeach, .ref r_isBack, .ref r_told, .ref r_bestSeats, .ref r_firstSeats, .int 0, .int 0, .int 0, .int 0, .int 0, .int 0, .int 0, .int 0, .int 0, .ref r_restLearn, .ref r_marksNow, .ref r_row, .int 0, .int 0])), (r_refused, .inl (cI, 7, .inl (fun _ => 0)))]) (wr := [(r_now, .inl (cI, 80, .inl (upd (upd (upd (upd (fun _ => 0) 1 2) 3 1) 4 10) 5 1)))]) hP hD hS hA [0, 1] [2] rfl rfl (by decide) (by decide) (va_runV (As := [.int (-2)]) (rest := []) ⟨hx, hb, hml, hown, hts⟩ (r_no2 l dC dI cI cC cZ _ h0 r_refused r_now r_then r_before r_asIs r_tape r_begins r_kinds r_field r_willTeach r_isBack r_told r_bestSeats r_firstSeats r_restLearn r_marksNow r_row 0 0 0 0 0 0 0 0 0 0 0 0 0 0 0 0 0 (fun _ => 0) rfl) (cwV 1 hts gX8_law_X8_no rfl rfl rfl (by decide +kernel) ⟨Nat.le_of_ble_eq_true rfl, Nat.le_of_ble_eq_true rfl⟩) ⟨vx_blind, va_recv hK hPc (ci := 6) (q0 := 0) rfl rfl, vx_pre hK hPc hDc⟩ rfl rfl hl.1 rfl (lv_room (Nat.le_of_ble_eq_true rfl)) dX8_law_13 ⟨Nat.le_of_ble_eq_true rfl, Nat.le_of_ble_eq_true rfl⟩) (fun r3 u2 H locs hw4 hP hD hS => ?_)
    have hP : va_P (dC, dI) vwCl [(r_now, .inl (cI, 80, .inl (upd (upd (upd (upd (fun _ => 0) 1 2) 3 1) 4 10) 5 1))), (h0, .inr (6, [.ref r_refused, .ref r_now, .ref r_then, .ref r_before, .ref r_asIs, .int 0, .ref r_tape, .int 0, .int 0, .int 0, .ref r_begins, .ref r_kinds, .int 0, .ref r_field, .ref r_willTeach, .ref r_isBack, .ref r_told, .ref r_bestSeats, .ref r_firstSeats, .int 0, .int 0, .int 0, .int 0, .int 0, .int 0, .int 0, .int 0, .int 0, .ref r_restLearn, .ref r_marksNow, .ref r_row, .int 0, .int 0])), (r_refused, .inl (cI, 7, .inl (upd (fun _ => 0) 2 1)))] H := hP
    have hD : va_D A [(r_now, .inl (cI, 80, .inl (upd (upd (upd (upd (fun _ => 0) 1 2) 3 1) 4 10) 5 1))), (h0, .inr (6, [.ref r_refused, .ref r_now, .ref r_then, .ref r_before, .ref r_asIs, .int 0, .ref r_tape, .int 0, .int 0, .int 0, .ref r_begins, .ref r_kinds, .int 0, .ref r_field, .ref r_willTeach, .ref r_isBack, .ref r_told, .ref r_bestSeats, .ref r_firstSeats, .int 0, .int 0, .int 0, .int 0, .int 0, .int 0, .int 0, .int 0, .int 0, .ref r_restLearn, .ref r_marksNow, .ref r_row, .int 0, .int 0])), (r_refused, .inl (cI, 7, .inl (upd (fun _ => 0) 2 1)))] := hD
    have er3 : (-2) = r3 := Eq.symm hw4
    subst er3
    exact vx_iret (u := ()) hx hb hr hlocks hK hP hD hS [] rfl (by decide) (zz_m_law_0 a c1) dX8_law_16
  · skip
    refine lv_iload_n hx hb dX8_law_4 rfl (lv_at hl 1 rfl) ?_
    refine lv_bipush (v := 6) hx hb dX8_law_5 (by decide) ?_
    refine lv_icmp_le (tgt := 17) hx hb dX8_law_7 (by decide) (fun c5 => ?_) (fun c5 => ?_)
    · skip
      refine lv_aload_n hx hb dX8_law_17 rfl (lv_at hl 0 rfl) ?_
      refine va_get (D := (dC, dI)) (ci := 6) (v := .ref r_now) (C := RX8) (T := TX8) (N := 33) hx hb hts iX8 hown hK hP 0 rfl rfl 1 (by decide) (hts (.fieldLink RX8 13 "NeighboursMarkModel" "now" "[I") (by decide +kernel)) (fun _ h9 => h9) rfl dX8_law_18 ?_
      refine lv_iconst (v := 3) hx hb dX8_law_21 (by decide) ?_
      refine va_iald hx hb hK hP 2 0 rfl rfl (by unfold vp_in; decide) dX8_law_22 ?_
      refine lv_topi (fun x6 ex6 => ?_)
      have ex6 : 1 = x6 := (ex6.trans rfl).symm
      subst ex6
      refine lv_istore_n (lv' := [(2, .int 1), (0, .ref h0), (1, .int a)]) hx hb dX8_law_23 rfl hl (by decide) rfl (fun ls hl => ?_)
      refine lv_aload_n hx hb dX8_law_24 rfl (lv_at hl 1 rfl) ?_
      refine va_get (D := (dC, dI)) (ci := 6) (v := .ref r_now) (C := RX8) (T := TX8) (N := 33) hx hb hts iX8 hown hK hP 0 rfl rfl 1 (by decide) (hts (.fieldLink RX8 13 "NeighboursMarkModel" "now" "[I") (by decide +kernel)) (fun _ h9 => h9) rfl dX8_law_25 ?_
      refine lv_iconst (v := 3) hx hb dX8_law_28 (by decide) ?_
      refine lv_iload_n hx hb dX8_law_29 rfl (lv_at hl 2 rfl) ?_
      refine va_iast hx hb hK hP hD hS 2 0 rfl rfl (by unfold vp_in; decide) dX8_law_30 (fun H locs hP hD hS => ?_)
      have hP : va_P (dC, dI) vwCl [(h0, .inr (6, [.ref r_refused, .ref r_now, .ref r_then, .ref r_before, .ref r_asIs, .int 0, .ref r_tape, .int 0, .int 0, .int 0, .ref r_begins, .ref r_kinds, .int 0, .ref r_field, .ref r_willTeach, .ref r_isBack, .ref r_told, .ref r_bestSeats, .ref r_firstSeats, .int 0, .int 0, .int 0, .int 0, .int 0, .int 0, .int 0, .int 0, .int 0, .ref r_restLearn, .ref r_marksNow, .ref r_row, .int 0, .int 0])), (r_refused, .inl (cI, 7, .inl (fun _ => 0))), (r_now, .inl (cI, 80, .inl (upd (upd (upd (upd (upd (fun _ => 0) 1 2) 3 1) 4 10) 5 1) 3 a)))] H := hP
      have hD : va_D A [(h0, .inr (6, [.ref r_refused, .ref r_now, .ref r_then, .ref r_before, .ref r_asIs, .int 0, .ref r_tape, .int 0, .int 0, .int 0, .ref r_begins, .ref r_kinds, .int 0, .ref r_field, .ref r_willTeach, .ref r_isBack, .ref r_told, .ref r_bestSeats, .ref r_firstSeats, .int 0, .int 0, .int 0, .int 0, .int 0, .int 0, .int 0, .int 0, .int 0, .ref r_restLearn, .ref r_marksNow, .ref r_row, .int 0, .int 0])), (r_refused, .inl (cI, 7, .inl (fun _ => 0))), (r_now, .inl (cI, 80, .inl (upd (upd (upd (upd (upd (fun _ => 0) 1 2) 3 1) 4 10) 5 1) 3 a)))] := hD
      refine lv_iload_n hx hb dX8_law_31 rfl (lv_at hl 0 rfl) ?_
      exact vx_iret (u := ()) hx hb hr hlocks hK hP hD hS [] rfl (by decide) (zz_m_law_1 a c1 c5) dX8_law_32
    · skip
      refine lv_aload_n hx hb dX8_law_10 rfl (lv_at hl 0 rfl) ?_
      refine lv_bipush (v := (-2)) hx hb dX8_law_11 (by decide) ?_
      have hPc := hP.sub (ws' := [(h0, .inr (6, [.ref r_refused, .ref r_now, .ref r_then, .ref r_before, .ref r_asIs, .int 0, .ref r_tape, .int 0, .int 0, .int 0, .ref r_begins, .ref r_kinds, .int 0, .ref r_field, .ref r_willTeach, .ref r_isBack, .ref r_told, .ref r_bestSeats, .ref r_firstSeats, .int 0, .int 0, .int 0, .int 0, .int 0, .int 0, .int 0, .int 0, .int 0, .ref r_restLearn, .ref r_marksNow, .ref r_row, .int 0, .int 0])), (r_refused, .inl (cI, 7, .inl (fun _ => 0)))]) [0, 1] rfl
      have hDc := hD.sub (ws' := [(h0, .inr (6, [.ref r_refused, .ref r_now, .ref r_then, .ref r_before, .ref r_asIs, .int 0, .ref r_tape, .int 0, .int 0, .int 0, .ref r_begins, .ref r_kinds, .int 0, .ref r_field, .ref r_willTeach, .ref r_isBack, .ref r_told, .ref r_bestSeats, .ref r_firstSeats, .int 0, .int 0, .int 0, .int 0, .int 0, .int 0, .int 0, .int 0, .int 0, .ref r_restLearn, .ref r_marksNow, .ref r_row, .int 0, .int 0])), (r_refused, .inl (cI, 7, .inl (fun _ => 0)))]) [0, 1] (by decide) rfl
      refine vx_calli (wc := [(h0, .inr (6, [.ref r_refused, .ref r_now, .ref r_then, .ref r_before, .ref r_asIs, .int 0, .ref r_tape, .int 0, .int 0, .int 0, .ref r_begins, .ref r_kinds, .int 0, .ref r_field, .ref r_willTeach, .ref r_isBack, .ref r_told, .ref r_bestSeats, .ref r_firstSeats, .int 0, .int 0, .int 0, .int 0, .int 0, .int 0, .int 0, .int 0, .int 0, .ref r_restLearn, .ref r_marksNow, .ref r_row, .int 0, .int 0])), (r_refused, .inl (cI, 7, .inl (fun _ => 0)))]) (wr := [(r_now, .inl (cI, 80, .inl (upd (upd (upd (upd (fun _ => 0) 1 2) 3 1) 4 10) 5 1)))]) hP hD hS hA [0, 1] [2] rfl rfl (by decide) (by decide) (va_runV (As := [.int (-2)]) (rest := []) ⟨hx, hb, hml, hown, hts⟩ (r_no2 l dC dI cI cC cZ _ h0 r_refused r_now r_then r_before r_asIs r_tape r_begins r_kinds r_field r_willTeach r_isBack r_told r_bestSeats r_firstSeats r_restLearn r_marksNow r_row 0 0 0 0 0 0 0 0 0 0 0 0 0 0 0 0 0 (fun _ => 0) rfl) (cwV 1 hts gX8_law_X8_no rfl rfl rfl (by decide +kernel) ⟨Nat.le_of_ble_eq_true rfl, Nat.le_of_ble_eq_true rfl⟩) ⟨vx_blind, va_recv hK hPc (ci := 6) (q0 := 0) rfl rfl, vx_pre hK hPc hDc⟩ rfl rfl hl.1 rfl (lv_room (Nat.le_of_ble_eq_true rfl)) dX8_law_13 ⟨Nat.le_of_ble_eq_true rfl, Nat.le_of_ble_eq_true rfl⟩) (fun r8 u7 H locs hw9 hP hD hS => ?_)
      have hP : va_P (dC, dI) vwCl [(r_now, .inl (cI, 80, .inl (upd (upd (upd (upd (fun _ => 0) 1 2) 3 1) 4 10) 5 1))), (h0, .inr (6, [.ref r_refused, .ref r_now, .ref r_then, .ref r_before, .ref r_asIs, .int 0, .ref r_tape, .int 0, .int 0, .int 0, .ref r_begins, .ref r_kinds, .int 0, .ref r_field, .ref r_willTeach, .ref r_isBack, .ref r_told, .ref r_bestSeats, .ref r_firstSeats, .int 0, .int 0, .int 0, .int 0, .int 0, .int 0, .int 0, .int 0, .int 0, .ref r_restLearn, .ref r_marksNow, .ref r_row, .int 0, .int 0])), (r_refused, .inl (cI, 7, .inl (upd (fun _ => 0) 2 1)))] H := hP
      have hD : va_D A [(r_now, .inl (cI, 80, .inl (upd (upd (upd (upd (fun _ => 0) 1 2) 3 1) 4 10) 5 1))), (h0, .inr (6, [.ref r_refused, .ref r_now, .ref r_then, .ref r_before, .ref r_asIs, .int 0, .ref r_tape, .int 0, .int 0, .int 0, .ref r_begins, .ref r_kinds, .int 0, .ref r_field, .ref r_willTeach, .ref r_isBack, .ref r_told, .ref r_bestSeats, .ref r_firstSeats, .int 0, .int 0, .int 0, .int 0, .int 0, .int 0, .int 0, .int 0, .int 0, .ref r_restLearn, .ref r_marksNow, .ref r_row, .int 0, .int 0])), (r_refused, .inl (cI, 7, .inl (upd (fun _ => 0) 2 1)))] := hD
      have er8 : (-2) = r8 := Eq.symm hw9
      subst er8
      exact vx_iret (u := ()) hx hb hr hlocks hK hP hD hS [] rfl (by decide) (zz_m_law_2 a c1 c5) dX8_law_16
theorem zz_m_pass_0 (a : Int32) (h0 : (0 : Int32) ≤ a) (h1 : a ≤ (99 : Int32)) : (10 : Int32) = f_pass a := by
  have e0 : ((-6) : Int32).toInt = -6 := by decide
  have e1 : ((-4) : Int32).toInt = -4 := by decide
  have e2 : (0 : Int32).toInt = 0 := by decide
  have e3 : (10 : Int32).toInt = 10 := by decide
  have e4 : (32 : Int32).toInt = 32 := by decide
  have e5 : (99 : Int32).toInt = 99 := by decide
  unfold f_pass
  (repeat' split) <;> first | rfl | (exfalso; simp only [Int32.lt_iff_toInt_lt, Int32.le_iff_toInt_le, ← Int32.toInt_inj, e0, e1, e2, e3, e4, e5] at * <;> omega)
theorem zz_m_pass_1 (a : Int32) (h0 : (0 : Int32) ≤ a) (h1 : ¬ a ≤ (99 : Int32)) : ((-6) : Int32) = f_pass a := by
  have e0 : ((-6) : Int32).toInt = -6 := by decide
  have e1 : ((-4) : Int32).toInt = -4 := by decide
  have e2 : (0 : Int32).toInt = 0 := by decide
  have e3 : (10 : Int32).toInt = 10 := by decide
  have e4 : (32 : Int32).toInt = 32 := by decide
  have e5 : (99 : Int32).toInt = 99 := by decide
  unfold f_pass
  (repeat' split) <;> first | rfl | (exfalso; simp only [Int32.lt_iff_toInt_lt, Int32.le_iff_toInt_le, ← Int32.toInt_inj, e0, e1, e2, e3, e4, e5] at * <;> omega)
theorem zz_m_pass_2 (a : Int32) (h0 : ¬ (0 : Int32) ≤ a) : ((-4) : Int32) = f_pass a := by
  have e0 : ((-6) : Int32).toInt = -6 := by decide
  have e1 : ((-4) : Int32).toInt = -4 := by decide
  have e2 : (0 : Int32).toInt = 0 := by decide
  have e3 : (10 : Int32).toInt = 10 := by decide
  have e4 : (32 : Int32).toInt = 32 := by decide
  have e5 : (99 : Int32).toInt = 99 := by decide
  unfold f_pass
  (repeat' split) <;> first | rfl | (exfalso; simp only [Int32.lt_iff_toInt_lt, Int32.le_iff_toInt_le, ← Int32.toInt_inj, e0, e1, e2, e3, e4, e5] at * <;> omega)
set_option maxHeartbeats 4000000 in
set_option maxRecDepth 100000 in
theorem m_pass (l : Launch) (dC : Nat → ClassId) (dI : Nat → Nat → Nat) (cI cC cZ : ClassId) (sz : Nat) (h0 r_refused r_now r_then r_before r_asIs r_tape r_begins r_kinds r_field r_willTeach r_isBack r_told r_bestSeats r_firstSeats r_restLearn r_marksNow r_row : Nat) (a : Int32) : Met l yX8_pass wsX8_pass ({ frames := 1, cells := 0, slots := 0, locals := 21 }) (va_Pc [.ref h0, .int a] (vx_B (dC, dI) (vx_T cI cC cZ) sz [(h0, .inr (6, [.ref r_refused, .ref r_now, .ref r_then, .ref r_before, .ref r_asIs, .int 0, .ref r_tape, .int 0, .int 0, .int 0, .ref r_begins, .ref r_kinds, .int 0, .ref r_field, .ref r_willTeach, .ref r_isBack, .ref r_told, .ref r_bestSeats, .ref r_firstSeats, .int 0, .int 0, .int 0, .int 0, .int 0, .int 0, .int 0, .int 0, .int 0, .ref r_restLearn, .ref r_marksNow, .ref r_row, .int 0, .int 0])), (r_refused, .inl (cI, 7, .inl (fun _ => 0))), (r_now, .inl (cI, 80, .inl (upd (upd (upd (upd (fun _ => 0) 1 2) 3 1) 4 10) 5 1)))])) (va_Qi (fun (r : Int32) (_ : Unit) => r = f_pass a) (vx_C (dC, dI) (vx_T cI cC cZ) (va_A [(h0, .inr (6, [.ref r_refused, .ref r_now, .ref r_then, .ref r_before, .ref r_asIs, .int 0, .ref r_tape, .int 0, .int 0, .int 0, .ref r_begins, .ref r_kinds, .int 0, .ref r_field, .ref r_willTeach, .ref r_isBack, .ref r_told, .ref r_bestSeats, .ref r_firstSeats, .int 0, .int 0, .int 0, .int 0, .int 0, .int 0, .int 0, .int 0, .int 0, .ref r_restLearn, .ref r_marksNow, .ref r_row, .int 0, .int 0])), (r_refused, .inl (cI, 7, .inl (fun _ => 0))), (r_now, .inl (cI, 80, .inl (upd (upd (upd (upd (fun _ => 0) 1 2) 3 1) 4 10) 5 1)))] sz) (fun (u : Unit) => [])) (va_A [(h0, .inr (6, [.ref r_refused, .ref r_now, .ref r_then, .ref r_before, .ref r_asIs, .int 0, .ref r_tape, .int 0, .int 0, .int 0, .ref r_begins, .ref r_kinds, .int 0, .ref r_field, .ref r_willTeach, .ref r_isBack, .ref r_told, .ref r_bestSeats, .ref r_firstSeats, .int 0, .int 0, .int 0, .int 0, .int 0, .int 0, .int 0, .int 0, .int 0, .ref r_restLearn, .ref r_marksNow, .ref r_row, .int 0, .int 0])), (r_refused, .inl (cI, 7, .inl (fun _ => 0))), (r_now, .inl (cI, 80, .inl (upd (upd (upd (upd (fun _ => 0) 1 2) 3 1) 4 10) 5 1)))] sz)) 0 0 (va_A [(h0, .inr (6, [.ref r_refused, .ref r_now, .ref r_then, .ref r_before, .ref r_asIs, .int 0, .ref r_tape, .int 0, .int 0, .int 0, .ref r_begins, .ref r_kinds, .int 0, .ref r_field, .ref r_willTeach, .ref r_isBack, .ref r_told, .ref r_bestSeats, .ref r_firstSeats, .int 0, .int 0, .int 0, .int 0, .int 0, .int 0, .int 0, .int 0, .int 0, .ref r_restLearn, .ref r_marksNow, .ref r_row, .int 0, .int 0])), (r_refused, .inl (cI, 7, .inl (fun _ => 0))), (r_now, .inl (cI, 80, .inl (upd (upd (upd (upd (fun _ => 0) 1 2) 3 1) 4 10) 5 1)))] sz) := by
  refine Met.ofW (cc := cX8_pass) (maxL := 3) (ret := (some .int)) (by decide) rfl ?_
  intro p e s m args below meth c s₁ B hml hv
  obtain ⟨rfl, hsz, hP, hK, hD0⟩ := hv
  have hx := B.exec
  have hb := B.bytes
  have hr := B.returns
  have hts := atoms_spec (ws := wsX8_pass) B.pre
  have hown : s.vm.findClass RX8 = some m.cls := findClass_of_methodNamed B.named
  have hlocks := B.notSynchronized
  subst hsz
  have hD := hD0.self (sz := s.heap.size)
  generalize hAe : va_A [(h0, .inr (6, [.ref r_refused, .ref r_now, .ref r_then, .ref r_before, .ref r_asIs, .int 0, .ref r_tape, .int 0, .int 0, .int 0, .ref r_begins, .ref r_kinds, .int 0, .ref r_field, .ref r_willTeach, .ref r_isBack, .ref r_told, .ref r_bestSeats, .ref r_firstSeats, .int 0, .int 0, .int 0, .int 0, .int 0, .int 0, .int 0, .int 0, .int 0, .ref r_restLearn, .ref r_marksNow, .ref r_row, .int 0, .int 0])), (r_refused, .inl (cI, 7, .inl (fun _ => 0))), (r_now, .inl (cI, 80, .inl (upd (upd (upd (upd (fun _ => 0) 1 2) 3 1) 4 10) 5 1)))] s.heap.size = A at hD ⊢
  have hA : ∀ q : Nat, s.heap.size ≤ q → A q := fun q h => by rw [← hAe]; exact Or.inr h
  have hS : va_S A s.heap s.heap [] := va_S.rf
  have hl := lv_entry ([.ref h0, .int a]) (n := 3) (Nat.le_of_ble_eq_true rfl)
  rw [lg_entry_eq]
  generalize (lg_sl ([.ref h0, .int a]) ++ List.replicate (3 - (lg_sl ([.ref h0, .int a])).length) Slot.unset).toArray = ls at hl ⊢
  have hl : lv_has ls 3 [(0, .ref h0), (1, .int a)] := hl
  have iX8 : ∀ w ∈ u_ws RX8 TX8 33, w ∈ wsX8_pass := by decide +kernel
  refine lv_iload_n hx hb dX8_pass_0 rfl (lv_at hl 1 rfl) ?_
  refine lv_if_ge (tgt := 11) hx hb dX8_pass_1 (by decide) (fun c1 => ?_) (fun c1 => ?_)
  · skip
    refine lv_iload_n hx hb dX8_pass_11 rfl (lv_at hl 1 rfl) ?_
    refine lv_bipush (v := 99) hx hb dX8_pass_12 (by decide) ?_
    refine lv_icmp_le (tgt := 24) hx hb dX8_pass_14 (by decide) (fun c2 => ?_) (fun c2 => ?_)
    · skip
      refine lv_aload_n hx hb dX8_pass_24 rfl (lv_at hl 0 rfl) ?_
      refine va_get (D := (dC, dI)) (ci := 6) (v := .ref r_now) (C := RX8) (T := TX8) (N := 33) hx hb hts iX8 hown hK hP 0 rfl rfl 1 (by decide) (hts (.fieldLink RX8 13 "NeighboursMarkModel" "now" "[I") (by decide +kernel)) (fun _ h9 => h9) rfl dX8_pass_25 ?_
      refine lv_iconst (v := 4) hx hb dX8_pass_28 (by decide) ?_
      refine va_iald hx hb hK hP 2 0 rfl rfl (by unfold vp_in; decide) dX8_pass_29 ?_
      refine lv_topi (fun x3 ex3 => ?_)
      have ex3 : 10 = x3 := (ex3.trans rfl).symm
      subst ex3
      refine lv_istore_n (lv' := [(2, .int 10), (0, .ref h0), (1, .int a)]) hx hb dX8_pass_30 rfl hl (by decide) rfl (fun ls hl => ?_)
      refine lv_aload_n hx hb dX8_pass_31 rfl (lv_at hl 1 rfl) ?_
      refine va_get (D := (dC, dI)) (ci := 6) (v := .ref r_now) (C := RX8) (T := TX8) (N := 33) hx hb hts iX8 hown hK hP 0 rfl rfl 1 (by decide) (hts (.fieldLink RX8 13 "NeighboursMarkModel" "now" "[I") (by decide +kernel)) (fun _ h9 => h9) rfl dX8_pass_32 ?_
      refine lv_iconst (v := 4) hx hb dX8_pass_35 (by decide) ?_
      refine lv_iload_n hx hb dX8_pass_36 rfl (lv_at hl 2 rfl) ?_
      refine va_iast hx hb hK hP hD hS 2 0 rfl rfl (by unfold vp_in; decide) dX8_pass_37 (fun H locs hP hD hS => ?_)
      have hP : va_P (dC, dI) vwCl [(h0, .inr (6, [.ref r_refused, .ref r_now, .ref r_then, .ref r_before, .ref r_asIs, .int 0, .ref r_tape, .int 0, .int 0, .int 0, .ref r_begins, .ref r_kinds, .int 0, .ref r_field, .ref r_willTeach, .ref r_isBack, .ref r_told, .ref r_bestSeats, .ref r_firstSeats, .int 0, .int 0, .int 0, .int 0, .int 0, .int 0, .int 0, .int 0, .int 0, .ref r_restLearn, .ref r_marksNow, .ref r_row, .int 0, .int 0])), (r_refused, .inl (cI, 7, .inl (fun _ => 0))), (r_now, .inl (cI, 80, .inl (upd (upd (upd (upd (upd (fun _ => 0) 1 2) 3 1) 4 10) 5 1) 4 a)))] H := hP
      have hD : va_D A [(h0, .inr (6, [.ref r_refused, .ref r_now, .ref r_then, .ref r_before, .ref r_asIs, .int 0, .ref r_tape, .int 0, .int 0, .int 0, .ref r_begins, .ref r_kinds, .int 0, .ref r_field, .ref r_willTeach, .ref r_isBack, .ref r_told, .ref r_bestSeats, .ref r_firstSeats, .int 0, .int 0, .int 0, .int 0, .int 0, .int 0, .int 0, .int 0, .int 0, .ref r_restLearn, .ref r_marksNow, .ref r_row, .int 0, .int 0])), (r_refused, .inl (cI, 7, .inl (fun _ => 0))), (r_now, .inl (cI, 80, .inl (upd (upd (upd (upd (upd (fun _ => 0) 1 2) 3 1) 4 10) 5 1) 4 a)))] := hD
      refine lv_iload_n hx hb dX8_pass_38 rfl (lv_at hl 0 rfl) ?_
      exact vx_iret (u := ()) hx hb hr hlocks hK hP hD hS [] rfl (by decide) (zz_m_pass_0 a c1 c2) dX8_pass_39
    · skip
      refine lv_aload_n hx hb dX8_pass_17 rfl (lv_at hl 0 rfl) ?_
      refine lv_bipush (v := (-6)) hx hb dX8_pass_18 (by decide) ?_
      have hPc := hP.sub (ws' := [(h0, .inr (6, [.ref r_refused, .ref r_now, .ref r_then, .ref r_before, .ref r_asIs, .int 0, .ref r_tape, .int 0, .int 0, .int 0, .ref r_begins, .ref r_kinds, .int 0, .ref r_field, .ref r_willTeach, .ref r_isBack, .ref r_told, .ref r_bestSeats, .ref r_firstSeats, .int 0, .int 0, .int 0, .int 0, .int 0, .int 0, .int 0, .int 0, .int 0, .ref r_restLearn, .ref r_marksNow, .ref r_row, .int 0, .int 0])), (r_refused, .inl (cI, 7, .inl (fun _ => 0)))]) [0, 1] rfl
      have hDc := hD.sub (ws' := [(h0, .inr (6, [.ref r_refused, .ref r_now, .ref r_then, .ref r_before, .ref r_asIs, .int 0, .ref r_tape, .int 0, .int 0, .int 0, .ref r_begins, .ref r_kinds, .int 0, .ref r_field, .ref r_willTeach, .ref r_isBack, .ref r_told, .ref r_bestSeats, .ref r_firstSeats, .int 0, .int 0, .int 0, .int 0, .int 0, .int 0, .int 0, .int 0, .int 0, .ref r_restLearn, .ref r_marksNow, .ref r_row, .int 0, .int 0])), (r_refused, .inl (cI, 7, .inl (fun _ => 0)))]) [0, 1] (by decide) rfl
      refine vx_calli (wc := [(h0, .inr (6, [.ref r_refused, .ref r_now, .ref r_then, .ref r_before, .ref r_asIs, .int 0, .ref r_tape, .int 0, .int 0, .int 0, .ref r_begins, .ref r_kinds, .int 0, .ref r_field, .ref r_willTeach, .ref r_isBack, .ref r_told, .ref r_bestSeats, .ref r_firstSeats, .int 0, .int 0, .int 0, .int 0, .int 0, .int 0, .int 0, .int 0, .int 0, .ref r_restLearn, .ref r_marksNow, .ref r_row, .int 0, .int 0])), (r_refused, .inl (cI, 7, .inl (fun _ => 0)))]) (wr := [(r_now, .inl (cI, 80, .inl (upd (upd (upd (upd (fun _ => 0) 1 2) 3 1) 4 10) 5 1)))]) hP hD hS hA [0, 1] [2] rfl rfl (by decide) (by decide) (va_runV (As := [.int (-6)]) (rest := []) ⟨hx, hb, hml, hown, hts⟩ (r_no6 l dC dI cI cC cZ _ h0 r_refused r_now r_then r_before r_asIs r_tape r_begins r_kinds r_field r_willTeach r_isBack r_told r_bestSeats r_firstSeats r_restLearn r_marksNow r_row 0 0 0 0 0 0 0 0 0 0 0 0 0 0 0 0 0 (fun _ => 0) rfl) (cwV 1 hts gX8_pass_X8_no rfl rfl rfl (by decide +kernel) ⟨Nat.le_of_ble_eq_true rfl, Nat.le_of_ble_eq_true rfl⟩) ⟨vx_blind, va_recv hK hPc (ci := 6) (q0 := 0) rfl rfl, vx_pre hK hPc hDc⟩ rfl rfl hl.1 rfl (lv_room (Nat.le_of_ble_eq_true rfl)) dX8_pass_20 ⟨Nat.le_of_ble_eq_true rfl, Nat.le_of_ble_eq_true rfl⟩) (fun r5 u4 H locs hw6 hP hD hS => ?_)
      have hP : va_P (dC, dI) vwCl [(r_now, .inl (cI, 80, .inl (upd (upd (upd (upd (fun _ => 0) 1 2) 3 1) 4 10) 5 1))), (h0, .inr (6, [.ref r_refused, .ref r_now, .ref r_then, .ref r_before, .ref r_asIs, .int 0, .ref r_tape, .int 0, .int 0, .int 0, .ref r_begins, .ref r_kinds, .int 0, .ref r_field, .ref r_willTeach, .ref r_isBack, .ref r_told, .ref r_bestSeats, .ref r_firstSeats, .int 0, .int 0, .int 0, .int 0, .int 0, .int 0, .int 0, .int 0, .int 0, .ref r_restLearn, .ref r_marksNow, .ref r_row, .int 0, .int 0])), (r_refused, .inl (cI, 7, .inl (upd (fun _ => 0) 6 1)))] H := hP
      have hD : va_D A [(r_now, .inl (cI, 80, .inl (upd (upd (upd (upd (fun _ => 0) 1 2) 3 1) 4 10) 5 1))), (h0, .inr (6, [.ref r_refused, .ref r_now, .ref r_then, .ref r_before, .ref r_asIs, .int 0, .ref r_tape, .int 0, .int 0, .int 0, .ref r_begins, .ref r_kinds, .int 0, .ref r_field, .ref r_willTeach, .ref r_isBack, .ref r_told, .ref r_bestSeats, .ref r_firstSeats, .int 0, .int 0, .int 0, .int 0, .int 0, .int 0, .int 0, .int 0, .int 0, .ref r_restLearn, .ref r_marksNow, .ref r_row, .int 0, .int 0])), (r_refused, .inl (cI, 7, .inl (upd (fun _ => 0) 6 1)))] := hD
      have er5 : (-6) = r5 := Eq.symm hw6
      subst er5
      exact vx_iret (u := ()) hx hb hr hlocks hK hP hD hS [] rfl (by decide) (zz_m_pass_1 a c1 c2) dX8_pass_23
  · skip
    refine lv_aload_n hx hb dX8_pass_4 rfl (lv_at hl 0 rfl) ?_
    refine lv_bipush (v := (-4)) hx hb dX8_pass_5 (by decide) ?_
    have hPc := hP.sub (ws' := [(h0, .inr (6, [.ref r_refused, .ref r_now, .ref r_then, .ref r_before, .ref r_asIs, .int 0, .ref r_tape, .int 0, .int 0, .int 0, .ref r_begins, .ref r_kinds, .int 0, .ref r_field, .ref r_willTeach, .ref r_isBack, .ref r_told, .ref r_bestSeats, .ref r_firstSeats, .int 0, .int 0, .int 0, .int 0, .int 0, .int 0, .int 0, .int 0, .int 0, .ref r_restLearn, .ref r_marksNow, .ref r_row, .int 0, .int 0])), (r_refused, .inl (cI, 7, .inl (fun _ => 0)))]) [0, 1] rfl
    have hDc := hD.sub (ws' := [(h0, .inr (6, [.ref r_refused, .ref r_now, .ref r_then, .ref r_before, .ref r_asIs, .int 0, .ref r_tape, .int 0, .int 0, .int 0, .ref r_begins, .ref r_kinds, .int 0, .ref r_field, .ref r_willTeach, .ref r_isBack, .ref r_told, .ref r_bestSeats, .ref r_firstSeats, .int 0, .int 0, .int 0, .int 0, .int 0, .int 0, .int 0, .int 0, .int 0, .ref r_restLearn, .ref r_marksNow, .ref r_row, .int 0, .int 0])), (r_refused, .inl (cI, 7, .inl (fun _ => 0)))]) [0, 1] (by decide) rfl
    refine vx_calli (wc := [(h0, .inr (6, [.ref r_refused, .ref r_now, .ref r_then, .ref r_before, .ref r_asIs, .int 0, .ref r_tape, .int 0, .int 0, .int 0, .ref r_begins, .ref r_kinds, .int 0, .ref r_field, .ref r_willTeach, .ref r_isBack, .ref r_told, .ref r_bestSeats, .ref r_firstSeats, .int 0, .int 0, .int 0, .int 0, .int 0, .int 0, .int 0, .int 0, .int 0, .ref r_restLearn, .ref r_marksNow, .ref r_row, .int 0, .int 0])), (r_refused, .inl (cI, 7, .inl (fun _ => 0)))]) (wr := [(r_now, .inl (cI, 80, .inl (upd (upd (upd (upd (fun _ => 0) 1 2) 3 1) 4 10) 5 1)))]) hP hD hS hA [0, 1] [2] rfl rfl (by decide) (by decide) (va_runV (As := [.int (-4)]) (rest := []) ⟨hx, hb, hml, hown, hts⟩ (r_no4 l dC dI cI cC cZ _ h0 r_refused r_now r_then r_before r_asIs r_tape r_begins r_kinds r_field r_willTeach r_isBack r_told r_bestSeats r_firstSeats r_restLearn r_marksNow r_row 0 0 0 0 0 0 0 0 0 0 0 0 0 0 0 0 0 (fun _ => 0) rfl) (cwV 1 hts gX8_pass_X8_no rfl rfl rfl (by decide +kernel) ⟨Nat.le_of_ble_eq_true rfl, Nat.le_of_ble_eq_true rfl⟩) ⟨vx_blind, va_recv hK hPc (ci := 6) (q0 := 0) rfl rfl, vx_pre hK hPc hDc⟩ rfl rfl hl.1 rfl (lv_room (Nat.le_of_ble_eq_true rfl)) dX8_pass_7 ⟨Nat.le_of_ble_eq_true rfl, Nat.le_of_ble_eq_true rfl⟩) (fun r8 u7 H locs hw9 hP hD hS => ?_)
    have hP : va_P (dC, dI) vwCl [(r_now, .inl (cI, 80, .inl (upd (upd (upd (upd (fun _ => 0) 1 2) 3 1) 4 10) 5 1))), (h0, .inr (6, [.ref r_refused, .ref r_now, .ref r_then, .ref r_before, .ref r_asIs, .int 0, .ref r_tape, .int 0, .int 0, .int 0, .ref r_begins, .ref r_kinds, .int 0, .ref r_field, .ref r_willTeach, .ref r_isBack, .ref r_told, .ref r_bestSeats, .ref r_firstSeats, .int 0, .int 0, .int 0, .int 0, .int 0, .int 0, .int 0, .int 0, .int 0, .ref r_restLearn, .ref r_marksNow, .ref r_row, .int 0, .int 0])), (r_refused, .inl (cI, 7, .inl (upd (fun _ => 0) 4 1)))] H := hP
    have hD : va_D A [(r_now, .inl (cI, 80, .inl (upd (upd (upd (upd (fun _ => 0) 1 2) 3 1) 4 10) 5 1))), (h0, .inr (6, [.ref r_refused, .ref r_now, .ref r_then, .ref r_before, .ref r_asIs, .int 0, .ref r_tape, .int 0, .int 0, .int 0, .ref r_begins, .ref r_kinds, .int 0, .ref r_field, .ref r_willTeach, .ref r_isBack, .ref r_told, .ref r_bestSeats, .ref r_firstSeats, .int 0, .int 0, .int 0, .int 0, .int 0, .int 0, .int 0, .int 0, .int 0, .ref r_restLearn, .ref r_marksNow, .ref r_row, .int 0, .int 0])), (r_refused, .inl (cI, 7, .inl (upd (fun _ => 0) 4 1)))] := hD
    have er8 : (-4) = r8 := Eq.symm hw9
    subst er8
    exact vx_iret (u := ()) hx hb hr hlocks hK hP hD hS [] rfl (by decide) (zz_m_pass_2 a c1) dX8_pass_10
set_option maxHeartbeats 4000000 in
set_option maxRecDepth 100000 in
theorem m_week (l : Launch) (dC : Nat → ClassId) (dI : Nat → Nat → Nat) (cI cC cZ : ClassId) (sz : Nat) (h0 r_refused r_now r_then r_before r_asIs r_tape r_begins r_kinds r_field r_willTeach r_isBack r_told r_bestSeats r_firstSeats r_restLearn r_marksNow r_row : Nat) : Met l yX8_week wsX8_week ({ frames := 1, cells := 0, slots := 0, locals := 21 }) (va_Pc [.ref h0] (vx_B (dC, dI) (vx_T cI cC cZ) sz [(h0, .inr (6, [.ref r_refused, .ref r_now, .ref r_then, .ref r_before, .ref r_asIs, .int 0, .ref r_tape, .int 0, .int 0, .int 0, .ref r_begins, .ref r_kinds, .int 0, .ref r_field, .ref r_willTeach, .ref r_isBack, .ref r_told, .ref r_bestSeats, .ref r_firstSeats, .int 0, .int 0, .int 0, .int 0, .int 0, .int 0, .int 0, .int 0, .int 0, .ref r_restLearn, .ref r_marksNow, .ref r_row, .int 0, .int 0])), (r_now, .inl (cI, 80, .inl (upd (upd (upd (upd (fun _ => 0) 1 2) 3 1) 4 10) 5 1)))])) (va_Qi (fun (r : Int32) (_ : Unit) => r = 1) (vx_C (dC, dI) (vx_T cI cC cZ) (va_A [(h0, .inr (6, [.ref r_refused, .ref r_now, .ref r_then, .ref r_before, .ref r_asIs, .int 0, .ref r_tape, .int 0, .int 0, .int 0, .ref r_begins, .ref r_kinds, .int 0, .ref r_field, .ref r_willTeach, .ref r_isBack, .ref r_told, .ref r_bestSeats, .ref r_firstSeats, .int 0, .int 0, .int 0, .int 0, .int 0, .int 0, .int 0, .int 0, .int 0, .ref r_restLearn, .ref r_marksNow, .ref r_row, .int 0, .int 0])), (r_now, .inl (cI, 80, .inl (upd (upd (upd (upd (fun _ => 0) 1 2) 3 1) 4 10) 5 1)))] sz) (fun (u : Unit) => [])) (va_A [(h0, .inr (6, [.ref r_refused, .ref r_now, .ref r_then, .ref r_before, .ref r_asIs, .int 0, .ref r_tape, .int 0, .int 0, .int 0, .ref r_begins, .ref r_kinds, .int 0, .ref r_field, .ref r_willTeach, .ref r_isBack, .ref r_told, .ref r_bestSeats, .ref r_firstSeats, .int 0, .int 0, .int 0, .int 0, .int 0, .int 0, .int 0, .int 0, .int 0, .ref r_restLearn, .ref r_marksNow, .ref r_row, .int 0, .int 0])), (r_now, .inl (cI, 80, .inl (upd (upd (upd (upd (fun _ => 0) 1 2) 3 1) 4 10) 5 1)))] sz)) 0 0 (va_A [(h0, .inr (6, [.ref r_refused, .ref r_now, .ref r_then, .ref r_before, .ref r_asIs, .int 0, .ref r_tape, .int 0, .int 0, .int 0, .ref r_begins, .ref r_kinds, .int 0, .ref r_field, .ref r_willTeach, .ref r_isBack, .ref r_told, .ref r_bestSeats, .ref r_firstSeats, .int 0, .int 0, .int 0, .int 0, .int 0, .int 0, .int 0, .int 0, .int 0, .ref r_restLearn, .ref r_marksNow, .ref r_row, .int 0, .int 0])), (r_now, .inl (cI, 80, .inl (upd (upd (upd (upd (fun _ => 0) 1 2) 3 1) 4 10) 5 1)))] sz) := by
  refine Met.ofW (cc := cX8_week) (maxL := 1) (ret := (some .int)) (by decide) rfl ?_
  intro p e s m args below meth c s₁ B hml hv
  obtain ⟨rfl, hsz, hP, hK, hD0⟩ := hv
  have hx := B.exec
  have hb := B.bytes
  have hr := B.returns
  have hts := atoms_spec (ws := wsX8_week) B.pre
  have hown : s.vm.findClass RX8 = some m.cls := findClass_of_methodNamed B.named
  have hlocks := B.notSynchronized
  subst hsz
  have hD := hD0.self (sz := s.heap.size)
  generalize hAe : va_A [(h0, .inr (6, [.ref r_refused, .ref r_now, .ref r_then, .ref r_before, .ref r_asIs, .int 0, .ref r_tape, .int 0, .int 0, .int 0, .ref r_begins, .ref r_kinds, .int 0, .ref r_field, .ref r_willTeach, .ref r_isBack, .ref r_told, .ref r_bestSeats, .ref r_firstSeats, .int 0, .int 0, .int 0, .int 0, .int 0, .int 0, .int 0, .int 0, .int 0, .ref r_restLearn, .ref r_marksNow, .ref r_row, .int 0, .int 0])), (r_now, .inl (cI, 80, .inl (upd (upd (upd (upd (fun _ => 0) 1 2) 3 1) 4 10) 5 1)))] s.heap.size = A at hD ⊢
  have hA : ∀ q : Nat, s.heap.size ≤ q → A q := fun q h => by rw [← hAe]; exact Or.inr h
  have hS : va_S A s.heap s.heap [] := va_S.rf
  have hl := lv_entry ([.ref h0]) (n := 1) (Nat.le_of_ble_eq_true rfl)
  rw [lg_entry_eq]
  generalize (lg_sl ([.ref h0]) ++ List.replicate (1 - (lg_sl ([.ref h0])).length) Slot.unset).toArray = ls at hl ⊢
  have hl : lv_has ls 1 [(0, .ref h0)] := hl
  have iX8 : ∀ w ∈ u_ws RX8 TX8 33, w ∈ wsX8_week := by decide +kernel
  refine lv_aload_n hx hb dX8_week_0 rfl (lv_at hl 0 rfl) ?_
  refine va_get (D := (dC, dI)) (ci := 6) (v := .ref r_now) (C := RX8) (T := TX8) (N := 33) hx hb hts iX8 hown hK hP 0 rfl rfl 1 (by decide) (hts (.fieldLink RX8 13 "NeighboursMarkModel" "now" "[I") (by decide +kernel)) (fun _ h9 => h9) rfl dX8_week_1 ?_
  refine lv_iconst (v := 2) hx hb dX8_week_4 (by decide) ?_
  refine va_iald hx hb hK hP 1 0 rfl rfl (by unfold vp_in; decide) dX8_week_5 ?_
  refine lv_topi (fun x1 ex1 => ?_)
  have ex1 : 0 = x1 := (ex1.trans rfl).symm
  subst ex1
  refine lv_sipush (v := 999) hx hb dX8_week_6 (by decide) ?_
  refine lv_icmp_ne (tgt := 19) hx hb dX8_week_9 (by decide) (fun _ => ?_) (fun c0 => absurd c0 (by decide))
  refine lv_aload_n hx hb dX8_week_19 rfl (lv_at hl 0 rfl) ?_
  have hPc := hP.sub (ws' := [(h0, .inr (6, [.ref r_refused, .ref r_now, .ref r_then, .ref r_before, .ref r_asIs, .int 0, .ref r_tape, .int 0, .int 0, .int 0, .ref r_begins, .ref r_kinds, .int 0, .ref r_field, .ref r_willTeach, .ref r_isBack, .ref r_told, .ref r_bestSeats, .ref r_firstSeats, .int 0, .int 0, .int 0, .int 0, .int 0, .int 0, .int 0, .int 0, .int 0, .ref r_restLearn, .ref r_marksNow, .ref r_row, .int 0, .int 0])), (r_now, .inl (cI, 80, .inl (upd (upd (upd (upd (fun _ => 0) 1 2) 3 1) 4 10) 5 1)))]) [0, 1] rfl
  have hDc := hD.sub (ws' := [(h0, .inr (6, [.ref r_refused, .ref r_now, .ref r_then, .ref r_before, .ref r_asIs, .int 0, .ref r_tape, .int 0, .int 0, .int 0, .ref r_begins, .ref r_kinds, .int 0, .ref r_field, .ref r_willTeach, .ref r_isBack, .ref r_told, .ref r_bestSeats, .ref r_firstSeats, .int 0, .int 0, .int 0, .int 0, .int 0, .int 0, .int 0, .int 0, .int 0, .ref r_restLearn, .ref r_marksNow, .ref r_row, .int 0, .int 0])), (r_now, .inl (cI, 80, .inl (upd (upd (upd (upd (fun _ => 0) 1 2) 3 1) 4 10) 5 1)))]) [0, 1] (by decide) rfl
  refine vx_callv (wc := [(h0, .inr (6, [.ref r_refused, .ref r_now, .ref r_then, .ref r_before, .ref r_asIs, .int 0, .ref r_tape, .int 0, .int 0, .int 0, .ref r_begins, .ref r_kinds, .int 0, .ref r_field, .ref r_willTeach, .ref r_isBack, .ref r_told, .ref r_bestSeats, .ref r_firstSeats, .int 0, .int 0, .int 0, .int 0, .int 0, .int 0, .int 0, .int 0, .int 0, .ref r_restLearn, .ref r_marksNow, .ref r_row, .int 0, .int 0])), (r_now, .inl (cI, 80, .inl (upd (upd (upd (upd (fun _ => 0) 1 2) 3 1) 4 10) 5 1)))]) (wr := []) hP hD hS hA [0, 1] [] rfl rfl (by decide) (by decide) (va_runV (As := []) (rest := []) ⟨hx, hb, hml, hown, hts⟩ (r_goBy l dC dI cI cC cZ _ h0 r_refused r_now r_then r_before r_asIs r_tape r_begins r_kinds r_field r_willTeach r_isBack r_told r_bestSeats r_firstSeats r_restLearn r_marksNow r_row 0 0 0 0 0 0 0 0 0 0 0 0 0 0 0 0 0 (upd (upd (upd (upd (fun _ => 0) 1 2) 3 1) 4 10) 5 1) rfl rfl) (cwV 0 hts gX8_week_X8_goBy rfl rfl rfl (by decide +kernel) ⟨Nat.le_of_ble_eq_true rfl, Nat.le_of_ble_eq_true rfl⟩) ⟨vx_blind, va_recv hK hPc (ci := 6) (q0 := 0) rfl rfl, vx_pre hK hPc hDc⟩ rfl rfl hl.1 rfl (lv_room (Nat.le_of_ble_eq_true rfl)) dX8_week_20 ⟨Nat.le_of_ble_eq_true rfl, Nat.le_of_ble_eq_true rfl⟩) (fun u2 H locs hw4 hP hD hS => ?_)
  have hP : va_P (dC, dI) vwCl [(h0, .inr (6, [.ref r_refused, .ref r_now, .ref r_then, .ref r_before, .ref r_asIs, .int 0, .ref r_tape, .int 0, .int 0, .int 0, .ref r_begins, .ref r_kinds, .int 0, .ref r_field, .ref r_willTeach, .ref r_isBack, .ref r_told, .ref r_bestSeats, .ref r_firstSeats, .int 0, .int 0, .int 0, .int 0, .int 0, .int 0, .int 0, .int 0, .int 0, .ref r_restLearn, .ref r_marksNow, .ref r_row, .int 0, .int 0])), (r_now, .inl (cI, 80, .inl (upd (upd (upd (upd (upd (fun _ => 0) 1 2) 3 1) 4 10) 5 1) 2 1)))] H := hP
  have hD : va_D A [(h0, .inr (6, [.ref r_refused, .ref r_now, .ref r_then, .ref r_before, .ref r_asIs, .int 0, .ref r_tape, .int 0, .int 0, .int 0, .ref r_begins, .ref r_kinds, .int 0, .ref r_field, .ref r_willTeach, .ref r_isBack, .ref r_told, .ref r_bestSeats, .ref r_firstSeats, .int 0, .int 0, .int 0, .int 0, .int 0, .int 0, .int 0, .int 0, .int 0, .ref r_restLearn, .ref r_marksNow, .ref r_row, .int 0, .int 0])), (r_now, .inl (cI, 80, .inl (upd (upd (upd (upd (upd (fun _ => 0) 1 2) 3 1) 4 10) 5 1) 2 1)))] := hD
  refine lv_aload_n hx hb dX8_week_23 rfl (lv_at hl 0 rfl) ?_
  refine va_get (D := (dC, dI)) (ci := 6) (v := .ref r_now) (C := RX8) (T := TX8) (N := 33) hx hb hts iX8 hown hK hP 0 rfl rfl 1 (by decide) (hts (.fieldLink RX8 13 "NeighboursMarkModel" "now" "[I") (by decide +kernel)) (fun _ h9 => h9) rfl dX8_week_24 ?_
  refine lv_iconst (v := 2) hx hb dX8_week_27 (by decide) ?_
  refine va_iald hx hb hK hP 1 0 rfl rfl (by unfold vp_in; decide) dX8_week_28 ?_
  refine lv_topi (fun x5 ex5 => ?_)
  have ex5 : 1 = x5 := (ex5.trans rfl).symm
  subst ex5
  exact vx_iret (u := ()) hx hb hr hlocks hK hP hD hS [] rfl (by decide) rfl dX8_week_29
set_option maxHeartbeats 4000000 in
set_option maxRecDepth 100000 in
theorem m_knows (l : Launch) (dC : Nat → ClassId) (dI : Nat → Nat → Nat) (cI cC cZ : ClassId) (sz : Nat) (h0 r_refused r_now r_then r_before r_asIs r_tape r_begins r_kinds r_field r_willTeach r_isBack r_told r_bestSeats r_firstSeats r_restLearn r_marksNow r_row : Nat) (a : Int32) : Met l yX8_knows wsX8_knows ({ frames := 1, cells := 0, slots := 0, locals := 21 }) (va_Pc [.ref h0, .int a] (vx_B (dC, dI) (vx_T cI cC cZ) sz [(h0, .inr (6, [.ref r_refused, .ref r_now, .ref r_then, .ref r_before, .ref r_asIs, .int 0, .ref r_tape, .int 0, .int 0, .int 0, .ref r_begins, .ref r_kinds, .int 0, .ref r_field, .ref r_willTeach, .ref r_isBack, .ref r_told, .ref r_bestSeats, .ref r_firstSeats, .int 0, .int 0, .int 0, .int 0, .int 0, .int 0, .int 0, .int 0, .int 0, .ref r_restLearn, .ref r_marksNow, .ref r_row, .int 0, .int 0])), (r_refused, .inl (cI, 7, .inl (fun _ => 0))), (r_now, .inl (cI, 80, .inl (upd (upd (upd (upd (fun _ => 0) 1 2) 3 1) 4 10) 5 1)))])) (va_Qi (fun (r : Int32) (_ : Unit) => r = (-1)) (vx_C (dC, dI) (vx_T cI cC cZ) (va_A [(h0, .inr (6, [.ref r_refused, .ref r_now, .ref r_then, .ref r_before, .ref r_asIs, .int 0, .ref r_tape, .int 0, .int 0, .int 0, .ref r_begins, .ref r_kinds, .int 0, .ref r_field, .ref r_willTeach, .ref r_isBack, .ref r_told, .ref r_bestSeats, .ref r_firstSeats, .int 0, .int 0, .int 0, .int 0, .int 0, .int 0, .int 0, .int 0, .int 0, .ref r_restLearn, .ref r_marksNow, .ref r_row, .int 0, .int 0])), (r_refused, .inl (cI, 7, .inl (fun _ => 0))), (r_now, .inl (cI, 80, .inl (upd (upd (upd (upd (fun _ => 0) 1 2) 3 1) 4 10) 5 1)))] sz) (fun (u : Unit) => [])) (va_A [(h0, .inr (6, [.ref r_refused, .ref r_now, .ref r_then, .ref r_before, .ref r_asIs, .int 0, .ref r_tape, .int 0, .int 0, .int 0, .ref r_begins, .ref r_kinds, .int 0, .ref r_field, .ref r_willTeach, .ref r_isBack, .ref r_told, .ref r_bestSeats, .ref r_firstSeats, .int 0, .int 0, .int 0, .int 0, .int 0, .int 0, .int 0, .int 0, .int 0, .ref r_restLearn, .ref r_marksNow, .ref r_row, .int 0, .int 0])), (r_refused, .inl (cI, 7, .inl (fun _ => 0))), (r_now, .inl (cI, 80, .inl (upd (upd (upd (upd (fun _ => 0) 1 2) 3 1) 4 10) 5 1)))] sz)) 0 0 (va_A [(h0, .inr (6, [.ref r_refused, .ref r_now, .ref r_then, .ref r_before, .ref r_asIs, .int 0, .ref r_tape, .int 0, .int 0, .int 0, .ref r_begins, .ref r_kinds, .int 0, .ref r_field, .ref r_willTeach, .ref r_isBack, .ref r_told, .ref r_bestSeats, .ref r_firstSeats, .int 0, .int 0, .int 0, .int 0, .int 0, .int 0, .int 0, .int 0, .int 0, .ref r_restLearn, .ref r_marksNow, .ref r_row, .int 0, .int 0])), (r_refused, .inl (cI, 7, .inl (fun _ => 0))), (r_now, .inl (cI, 80, .inl (upd (upd (upd (upd (fun _ => 0) 1 2) 3 1) 4 10) 5 1)))] sz) := by
  refine Met.ofW (cc := cX8_knows) (maxL := 2) (ret := (some .int)) (by decide) rfl ?_
  intro p e s m args below meth c s₁ B hml hv
  obtain ⟨rfl, hsz, hP, hK, hD0⟩ := hv
  have hx := B.exec
  have hb := B.bytes
  have hr := B.returns
  have hts := atoms_spec (ws := wsX8_knows) B.pre
  have hown : s.vm.findClass RX8 = some m.cls := findClass_of_methodNamed B.named
  have hlocks := B.notSynchronized
  subst hsz
  have hD := hD0.self (sz := s.heap.size)
  generalize hAe : va_A [(h0, .inr (6, [.ref r_refused, .ref r_now, .ref r_then, .ref r_before, .ref r_asIs, .int 0, .ref r_tape, .int 0, .int 0, .int 0, .ref r_begins, .ref r_kinds, .int 0, .ref r_field, .ref r_willTeach, .ref r_isBack, .ref r_told, .ref r_bestSeats, .ref r_firstSeats, .int 0, .int 0, .int 0, .int 0, .int 0, .int 0, .int 0, .int 0, .int 0, .ref r_restLearn, .ref r_marksNow, .ref r_row, .int 0, .int 0])), (r_refused, .inl (cI, 7, .inl (fun _ => 0))), (r_now, .inl (cI, 80, .inl (upd (upd (upd (upd (fun _ => 0) 1 2) 3 1) 4 10) 5 1)))] s.heap.size = A at hD ⊢
  have hA : ∀ q : Nat, s.heap.size ≤ q → A q := fun q h => by rw [← hAe]; exact Or.inr h
  have hS : va_S A s.heap s.heap [] := va_S.rf
  have hl := lv_entry ([.ref h0, .int a]) (n := 2) (Nat.le_of_ble_eq_true rfl)
  rw [lg_entry_eq]
  generalize (lg_sl ([.ref h0, .int a]) ++ List.replicate (2 - (lg_sl ([.ref h0, .int a])).length) Slot.unset).toArray = ls at hl ⊢
  have hl : lv_has ls 2 [(0, .ref h0), (1, .int a)] := hl
  refine lv_aload_n hx hb dX8_knows_0 rfl (lv_at hl 0 rfl) ?_
  refine lv_iload_n hx hb dX8_knows_1 rfl (lv_at hl 1 rfl) ?_
  have hPc := hP.sub (ws' := [(h0, .inr (6, [.ref r_refused, .ref r_now, .ref r_then, .ref r_before, .ref r_asIs, .int 0, .ref r_tape, .int 0, .int 0, .int 0, .ref r_begins, .ref r_kinds, .int 0, .ref r_field, .ref r_willTeach, .ref r_isBack, .ref r_told, .ref r_bestSeats, .ref r_firstSeats, .int 0, .int 0, .int 0, .int 0, .int 0, .int 0, .int 0, .int 0, .int 0, .ref r_restLearn, .ref r_marksNow, .ref r_row, .int 0, .int 0])), (r_now, .inl (cI, 80, .inl (upd (upd (upd (upd (fun _ => 0) 1 2) 3 1) 4 10) 5 1)))]) [0, 2] rfl
  have hDc := hD.sub (ws' := [(h0, .inr (6, [.ref r_refused, .ref r_now, .ref r_then, .ref r_before, .ref r_asIs, .int 0, .ref r_tape, .int 0, .int 0, .int 0, .ref r_begins, .ref r_kinds, .int 0, .ref r_field, .ref r_willTeach, .ref r_isBack, .ref r_told, .ref r_bestSeats, .ref r_firstSeats, .int 0, .int 0, .int 0, .int 0, .int 0, .int 0, .int 0, .int 0, .int 0, .ref r_restLearn, .ref r_marksNow, .ref r_row, .int 0, .int 0])), (r_now, .inl (cI, 80, .inl (upd (upd (upd (upd (fun _ => 0) 1 2) 3 1) 4 10) 5 1)))]) [0, 2] (by decide) rfl
  refine vx_calli (wc := [(h0, .inr (6, [.ref r_refused, .ref r_now, .ref r_then, .ref r_before, .ref r_asIs, .int 0, .ref r_tape, .int 0, .int 0, .int 0, .ref r_begins, .ref r_kinds, .int 0, .ref r_field, .ref r_willTeach, .ref r_isBack, .ref r_told, .ref r_bestSeats, .ref r_firstSeats, .int 0, .int 0, .int 0, .int 0, .int 0, .int 0, .int 0, .int 0, .int 0, .ref r_restLearn, .ref r_marksNow, .ref r_row, .int 0, .int 0])), (r_now, .inl (cI, 80, .inl (upd (upd (upd (upd (fun _ => 0) 1 2) 3 1) 4 10) 5 1)))]) (wr := [(r_refused, .inl (cI, 7, .inl (fun _ => 0)))]) hP hD hS hA [0, 2] [1] rfl rfl (by decide) (by decide) (va_runV (As := [.int a]) (rest := []) ⟨hx, hb, hml, hown, hts⟩ (r_isNobody l dC dI cI cC cZ _ h0 r_refused r_now r_then r_before r_asIs r_tape r_begins r_kinds r_field r_willTeach r_isBack r_told r_bestSeats r_firstSeats r_restLearn r_marksNow r_row 0 0 0 0 0 0 0 0 0 0 0 0 0 0 0 0 a (upd (upd (upd (upd (fun _ => 0) 1 2) 3 1) 4 10) 5 1) rfl) (cwV 1 hts gX8_knows_X8_isNobody rfl rfl rfl (by decide +kernel) ⟨Nat.le_of_ble_eq_true rfl, Nat.le_of_ble_eq_true rfl⟩) ⟨vx_blind, va_recv hK hPc (ci := 6) (q0 := 0) rfl rfl, vx_pre hK hPc hDc⟩ rfl rfl hl.1 rfl (lv_room (Nat.le_of_ble_eq_true rfl)) dX8_knows_2 ⟨Nat.le_of_ble_eq_true rfl, Nat.le_of_ble_eq_true rfl⟩) (fun r2 u1 H locs hw3 hP hD hS => ?_)
  have hP : va_P (dC, dI) vwCl [(r_refused, .inl (cI, 7, .inl (fun _ => 0))), (h0, .inr (6, [.ref r_refused, .ref r_now, .ref r_then, .ref r_before, .ref r_asIs, .int 0, .ref r_tape, .int 0, .int 0, .int 0, .ref r_begins, .ref r_kinds, .int 0, .ref r_field, .ref r_willTeach, .ref r_isBack, .ref r_told, .ref r_bestSeats, .ref r_firstSeats, .int 0, .int 0, .int 0, .int 0, .int 0, .int 0, .int 0, .int 0, .int 0, .ref r_restLearn, .ref r_marksNow, .ref r_row, .int 0, .int 0])), (r_now, .inl (cI, 80, .inl (upd (upd (upd (upd (fun _ => 0) 1 2) 3 1) 4 10) 5 1)))] H := hP
  have hD : va_D A [(r_refused, .inl (cI, 7, .inl (fun _ => 0))), (h0, .inr (6, [.ref r_refused, .ref r_now, .ref r_then, .ref r_before, .ref r_asIs, .int 0, .ref r_tape, .int 0, .int 0, .int 0, .ref r_begins, .ref r_kinds, .int 0, .ref r_field, .ref r_willTeach, .ref r_isBack, .ref r_told, .ref r_bestSeats, .ref r_firstSeats, .int 0, .int 0, .int 0, .int 0, .int 0, .int 0, .int 0, .int 0, .int 0, .ref r_restLearn, .ref r_marksNow, .ref r_row, .int 0, .int 0])), (r_now, .inl (cI, 80, .inl (upd (upd (upd (upd (fun _ => 0) 1 2) 3 1) 4 10) 5 1)))] := hD
  have er2 : 1 = r2 := Eq.symm hw3
  subst er2
  refine lv_if_eq (tgt := 16) hx hb dX8_knows_5 (by decide) (fun c0 => absurd c0 (by decide)) (fun _ => ?_)
  refine lv_aload_n hx hb dX8_knows_8 rfl (lv_at hl 0 rfl) ?_
  refine lv_iconst (v := (-1)) hx hb dX8_knows_9 (by decide) ?_
  have hPc := hP.sub (ws' := [(h0, .inr (6, [.ref r_refused, .ref r_now, .ref r_then, .ref r_before, .ref r_asIs, .int 0, .ref r_tape, .int 0, .int 0, .int 0, .ref r_begins, .ref r_kinds, .int 0, .ref r_field, .ref r_willTeach, .ref r_isBack, .ref r_told, .ref r_bestSeats, .ref r_firstSeats, .int 0, .int 0, .int 0, .int 0, .int 0, .int 0, .int 0, .int 0, .int 0, .ref r_restLearn, .ref r_marksNow, .ref r_row, .int 0, .int 0])), (r_refused, .inl (cI, 7, .inl (fun _ => 0)))]) [1, 0] rfl
  have hDc := hD.sub (ws' := [(h0, .inr (6, [.ref r_refused, .ref r_now, .ref r_then, .ref r_before, .ref r_asIs, .int 0, .ref r_tape, .int 0, .int 0, .int 0, .ref r_begins, .ref r_kinds, .int 0, .ref r_field, .ref r_willTeach, .ref r_isBack, .ref r_told, .ref r_bestSeats, .ref r_firstSeats, .int 0, .int 0, .int 0, .int 0, .int 0, .int 0, .int 0, .int 0, .int 0, .ref r_restLearn, .ref r_marksNow, .ref r_row, .int 0, .int 0])), (r_refused, .inl (cI, 7, .inl (fun _ => 0)))]) [1, 0] (by decide) rfl
  refine vx_calli (wc := [(h0, .inr (6, [.ref r_refused, .ref r_now, .ref r_then, .ref r_before, .ref r_asIs, .int 0, .ref r_tape, .int 0, .int 0, .int 0, .ref r_begins, .ref r_kinds, .int 0, .ref r_field, .ref r_willTeach, .ref r_isBack, .ref r_told, .ref r_bestSeats, .ref r_firstSeats, .int 0, .int 0, .int 0, .int 0, .int 0, .int 0, .int 0, .int 0, .int 0, .ref r_restLearn, .ref r_marksNow, .ref r_row, .int 0, .int 0])), (r_refused, .inl (cI, 7, .inl (fun _ => 0)))]) (wr := [(r_now, .inl (cI, 80, .inl (upd (upd (upd (upd (fun _ => 0) 1 2) 3 1) 4 10) 5 1)))]) hP hD hS hA [1, 0] [2] rfl rfl (by decide) (by decide) (va_runV (As := [.int (-1)]) (rest := []) ⟨hx, hb, hml, hown, hts⟩ (r_no1 l dC dI cI cC cZ _ h0 r_refused r_now r_then r_before r_asIs r_tape r_begins r_kinds r_field r_willTeach r_isBack r_told r_bestSeats r_firstSeats r_restLearn r_marksNow r_row 0 0 0 0 0 0 0 0 0 0 0 0 0 0 0 0 0 (fun _ => 0) rfl) (cwV 1 hts gX8_knows_X8_no rfl rfl rfl (by decide +kernel) ⟨Nat.le_of_ble_eq_true rfl, Nat.le_of_ble_eq_true rfl⟩) ⟨vx_blind, va_recv hK hPc (ci := 6) (q0 := 0) rfl rfl, vx_pre hK hPc hDc⟩ rfl rfl hl.1 rfl (lv_room (Nat.le_of_ble_eq_true rfl)) dX8_knows_10 ⟨Nat.le_of_ble_eq_true rfl, Nat.le_of_ble_eq_true rfl⟩) (fun r5 u4 H locs hw6 hP hD hS => ?_)
  have hP : va_P (dC, dI) vwCl [(r_now, .inl (cI, 80, .inl (upd (upd (upd (upd (fun _ => 0) 1 2) 3 1) 4 10) 5 1))), (h0, .inr (6, [.ref r_refused, .ref r_now, .ref r_then, .ref r_before, .ref r_asIs, .int 0, .ref r_tape, .int 0, .int 0, .int 0, .ref r_begins, .ref r_kinds, .int 0, .ref r_field, .ref r_willTeach, .ref r_isBack, .ref r_told, .ref r_bestSeats, .ref r_firstSeats, .int 0, .int 0, .int 0, .int 0, .int 0, .int 0, .int 0, .int 0, .int 0, .ref r_restLearn, .ref r_marksNow, .ref r_row, .int 0, .int 0])), (r_refused, .inl (cI, 7, .inl (upd (fun _ => 0) 1 1)))] H := hP
  have hD : va_D A [(r_now, .inl (cI, 80, .inl (upd (upd (upd (upd (fun _ => 0) 1 2) 3 1) 4 10) 5 1))), (h0, .inr (6, [.ref r_refused, .ref r_now, .ref r_then, .ref r_before, .ref r_asIs, .int 0, .ref r_tape, .int 0, .int 0, .int 0, .ref r_begins, .ref r_kinds, .int 0, .ref r_field, .ref r_willTeach, .ref r_isBack, .ref r_told, .ref r_bestSeats, .ref r_firstSeats, .int 0, .int 0, .int 0, .int 0, .int 0, .int 0, .int 0, .int 0, .int 0, .ref r_restLearn, .ref r_marksNow, .ref r_row, .int 0, .int 0])), (r_refused, .inl (cI, 7, .inl (upd (fun _ => 0) 1 1)))] := hD
  have er5 : (-1) = r5 := Eq.symm hw6
  subst er5
  refine lv_goto (tgt := 21) hx hb dX8_knows_13 (by decide) ?_
  exact vx_iret (u := ()) hx hb hr hlocks hK hP hD hS [] rfl (by decide) rfl dX8_knows_21
set_option maxHeartbeats 4000000 in
set_option maxRecDepth 100000 in
theorem m_mark (l : Launch) (dC : Nat → ClassId) (dI : Nat → Nat → Nat) (cI cC cZ : ClassId) (sz : Nat) (h0 r_refused r_now r_then r_before r_asIs r_tape r_begins r_kinds r_field r_willTeach r_isBack r_told r_bestSeats r_firstSeats r_restLearn r_marksNow r_row : Nat) (a : Int32) : Met l yX8_mark wsX8_mark ({ frames := 1, cells := 0, slots := 0, locals := 21 }) (va_Pc [.ref h0, .int a] (vx_B (dC, dI) (vx_T cI cC cZ) sz [(h0, .inr (6, [.ref r_refused, .ref r_now, .ref r_then, .ref r_before, .ref r_asIs, .int 0, .ref r_tape, .int 0, .int 0, .int 0, .ref r_begins, .ref r_kinds, .int 0, .ref r_field, .ref r_willTeach, .ref r_isBack, .ref r_told, .ref r_bestSeats, .ref r_firstSeats, .int 0, .int 0, .int 0, .int 0, .int 0, .int 0, .int 0, .int 0, .int 0, .ref r_restLearn, .ref r_marksNow, .ref r_row, .int 0, .int 0])), (r_refused, .inl (cI, 7, .inl (fun _ => 0))), (r_now, .inl (cI, 80, .inl (upd (upd (upd (upd (fun _ => 0) 1 2) 3 1) 4 10) 5 1)))])) (va_Qi (fun (r : Int32) (_ : Unit) => r = (-1)) (vx_C (dC, dI) (vx_T cI cC cZ) (va_A [(h0, .inr (6, [.ref r_refused, .ref r_now, .ref r_then, .ref r_before, .ref r_asIs, .int 0, .ref r_tape, .int 0, .int 0, .int 0, .ref r_begins, .ref r_kinds, .int 0, .ref r_field, .ref r_willTeach, .ref r_isBack, .ref r_told, .ref r_bestSeats, .ref r_firstSeats, .int 0, .int 0, .int 0, .int 0, .int 0, .int 0, .int 0, .int 0, .int 0, .ref r_restLearn, .ref r_marksNow, .ref r_row, .int 0, .int 0])), (r_refused, .inl (cI, 7, .inl (fun _ => 0))), (r_now, .inl (cI, 80, .inl (upd (upd (upd (upd (fun _ => 0) 1 2) 3 1) 4 10) 5 1)))] sz) (fun (u : Unit) => [])) (va_A [(h0, .inr (6, [.ref r_refused, .ref r_now, .ref r_then, .ref r_before, .ref r_asIs, .int 0, .ref r_tape, .int 0, .int 0, .int 0, .ref r_begins, .ref r_kinds, .int 0, .ref r_field, .ref r_willTeach, .ref r_isBack, .ref r_told, .ref r_bestSeats, .ref r_firstSeats, .int 0, .int 0, .int 0, .int 0, .int 0, .int 0, .int 0, .int 0, .int 0, .ref r_restLearn, .ref r_marksNow, .ref r_row, .int 0, .int 0])), (r_refused, .inl (cI, 7, .inl (fun _ => 0))), (r_now, .inl (cI, 80, .inl (upd (upd (upd (upd (fun _ => 0) 1 2) 3 1) 4 10) 5 1)))] sz)) 0 0 (va_A [(h0, .inr (6, [.ref r_refused, .ref r_now, .ref r_then, .ref r_before, .ref r_asIs, .int 0, .ref r_tape, .int 0, .int 0, .int 0, .ref r_begins, .ref r_kinds, .int 0, .ref r_field, .ref r_willTeach, .ref r_isBack, .ref r_told, .ref r_bestSeats, .ref r_firstSeats, .int 0, .int 0, .int 0, .int 0, .int 0, .int 0, .int 0, .int 0, .int 0, .ref r_restLearn, .ref r_marksNow, .ref r_row, .int 0, .int 0])), (r_refused, .inl (cI, 7, .inl (fun _ => 0))), (r_now, .inl (cI, 80, .inl (upd (upd (upd (upd (fun _ => 0) 1 2) 3 1) 4 10) 5 1)))] sz) := by
  refine Met.ofW (cc := cX8_mark) (maxL := 2) (ret := (some .int)) (by decide) rfl ?_
  intro p e s m args below meth c s₁ B hml hv
  obtain ⟨rfl, hsz, hP, hK, hD0⟩ := hv
  have hx := B.exec
  have hb := B.bytes
  have hr := B.returns
  have hts := atoms_spec (ws := wsX8_mark) B.pre
  have hown : s.vm.findClass RX8 = some m.cls := findClass_of_methodNamed B.named
  have hlocks := B.notSynchronized
  subst hsz
  have hD := hD0.self (sz := s.heap.size)
  generalize hAe : va_A [(h0, .inr (6, [.ref r_refused, .ref r_now, .ref r_then, .ref r_before, .ref r_asIs, .int 0, .ref r_tape, .int 0, .int 0, .int 0, .ref r_begins, .ref r_kinds, .int 0, .ref r_field, .ref r_willTeach, .ref r_isBack, .ref r_told, .ref r_bestSeats, .ref r_firstSeats, .int 0, .int 0, .int 0, .int 0, .int 0, .int 0, .int 0, .int 0, .int 0, .ref r_restLearn, .ref r_marksNow, .ref r_row, .int 0, .int 0])), (r_refused, .inl (cI, 7, .inl (fun _ => 0))), (r_now, .inl (cI, 80, .inl (upd (upd (upd (upd (fun _ => 0) 1 2) 3 1) 4 10) 5 1)))] s.heap.size = A at hD ⊢
  have hA : ∀ q : Nat, s.heap.size ≤ q → A q := fun q h => by rw [← hAe]; exact Or.inr h
  have hS : va_S A s.heap s.heap [] := va_S.rf
  have hl := lv_entry ([.ref h0, .int a]) (n := 2) (Nat.le_of_ble_eq_true rfl)
  rw [lg_entry_eq]
  generalize (lg_sl ([.ref h0, .int a]) ++ List.replicate (2 - (lg_sl ([.ref h0, .int a])).length) Slot.unset).toArray = ls at hl ⊢
  have hl : lv_has ls 2 [(0, .ref h0), (1, .int a)] := hl
  refine lv_aload_n hx hb dX8_mark_0 rfl (lv_at hl 0 rfl) ?_
  refine lv_iload_n hx hb dX8_mark_1 rfl (lv_at hl 1 rfl) ?_
  have hPc := hP.sub (ws' := [(h0, .inr (6, [.ref r_refused, .ref r_now, .ref r_then, .ref r_before, .ref r_asIs, .int 0, .ref r_tape, .int 0, .int 0, .int 0, .ref r_begins, .ref r_kinds, .int 0, .ref r_field, .ref r_willTeach, .ref r_isBack, .ref r_told, .ref r_bestSeats, .ref r_firstSeats, .int 0, .int 0, .int 0, .int 0, .int 0, .int 0, .int 0, .int 0, .int 0, .ref r_restLearn, .ref r_marksNow, .ref r_row, .int 0, .int 0])), (r_now, .inl (cI, 80, .inl (upd (upd (upd (upd (fun _ => 0) 1 2) 3 1) 4 10) 5 1)))]) [0, 2] rfl
  have hDc := hD.sub (ws' := [(h0, .inr (6, [.ref r_refused, .ref r_now, .ref r_then, .ref r_before, .ref r_asIs, .int 0, .ref r_tape, .int 0, .int 0, .int 0, .ref r_begins, .ref r_kinds, .int 0, .ref r_field, .ref r_willTeach, .ref r_isBack, .ref r_told, .ref r_bestSeats, .ref r_firstSeats, .int 0, .int 0, .int 0, .int 0, .int 0, .int 0, .int 0, .int 0, .int 0, .ref r_restLearn, .ref r_marksNow, .ref r_row, .int 0, .int 0])), (r_now, .inl (cI, 80, .inl (upd (upd (upd (upd (fun _ => 0) 1 2) 3 1) 4 10) 5 1)))]) [0, 2] (by decide) rfl
  refine vx_calli (wc := [(h0, .inr (6, [.ref r_refused, .ref r_now, .ref r_then, .ref r_before, .ref r_asIs, .int 0, .ref r_tape, .int 0, .int 0, .int 0, .ref r_begins, .ref r_kinds, .int 0, .ref r_field, .ref r_willTeach, .ref r_isBack, .ref r_told, .ref r_bestSeats, .ref r_firstSeats, .int 0, .int 0, .int 0, .int 0, .int 0, .int 0, .int 0, .int 0, .int 0, .ref r_restLearn, .ref r_marksNow, .ref r_row, .int 0, .int 0])), (r_now, .inl (cI, 80, .inl (upd (upd (upd (upd (fun _ => 0) 1 2) 3 1) 4 10) 5 1)))]) (wr := [(r_refused, .inl (cI, 7, .inl (fun _ => 0)))]) hP hD hS hA [0, 2] [1] rfl rfl (by decide) (by decide) (va_runV (As := [.int a]) (rest := []) ⟨hx, hb, hml, hown, hts⟩ (r_isNobody l dC dI cI cC cZ _ h0 r_refused r_now r_then r_before r_asIs r_tape r_begins r_kinds r_field r_willTeach r_isBack r_told r_bestSeats r_firstSeats r_restLearn r_marksNow r_row 0 0 0 0 0 0 0 0 0 0 0 0 0 0 0 0 a (upd (upd (upd (upd (fun _ => 0) 1 2) 3 1) 4 10) 5 1) rfl) (cwV 1 hts gX8_mark_X8_isNobody rfl rfl rfl (by decide +kernel) ⟨Nat.le_of_ble_eq_true rfl, Nat.le_of_ble_eq_true rfl⟩) ⟨vx_blind, va_recv hK hPc (ci := 6) (q0 := 0) rfl rfl, vx_pre hK hPc hDc⟩ rfl rfl hl.1 rfl (lv_room (Nat.le_of_ble_eq_true rfl)) dX8_mark_2 ⟨Nat.le_of_ble_eq_true rfl, Nat.le_of_ble_eq_true rfl⟩) (fun r2 u1 H locs hw3 hP hD hS => ?_)
  have hP : va_P (dC, dI) vwCl [(r_refused, .inl (cI, 7, .inl (fun _ => 0))), (h0, .inr (6, [.ref r_refused, .ref r_now, .ref r_then, .ref r_before, .ref r_asIs, .int 0, .ref r_tape, .int 0, .int 0, .int 0, .ref r_begins, .ref r_kinds, .int 0, .ref r_field, .ref r_willTeach, .ref r_isBack, .ref r_told, .ref r_bestSeats, .ref r_firstSeats, .int 0, .int 0, .int 0, .int 0, .int 0, .int 0, .int 0, .int 0, .int 0, .ref r_restLearn, .ref r_marksNow, .ref r_row, .int 0, .int 0])), (r_now, .inl (cI, 80, .inl (upd (upd (upd (upd (fun _ => 0) 1 2) 3 1) 4 10) 5 1)))] H := hP
  have hD : va_D A [(r_refused, .inl (cI, 7, .inl (fun _ => 0))), (h0, .inr (6, [.ref r_refused, .ref r_now, .ref r_then, .ref r_before, .ref r_asIs, .int 0, .ref r_tape, .int 0, .int 0, .int 0, .ref r_begins, .ref r_kinds, .int 0, .ref r_field, .ref r_willTeach, .ref r_isBack, .ref r_told, .ref r_bestSeats, .ref r_firstSeats, .int 0, .int 0, .int 0, .int 0, .int 0, .int 0, .int 0, .int 0, .int 0, .ref r_restLearn, .ref r_marksNow, .ref r_row, .int 0, .int 0])), (r_now, .inl (cI, 80, .inl (upd (upd (upd (upd (fun _ => 0) 1 2) 3 1) 4 10) 5 1)))] := hD
  have er2 : 1 = r2 := Eq.symm hw3
  subst er2
  refine lv_if_eq (tgt := 16) hx hb dX8_mark_5 (by decide) (fun c0 => absurd c0 (by decide)) (fun _ => ?_)
  refine lv_aload_n hx hb dX8_mark_8 rfl (lv_at hl 0 rfl) ?_
  refine lv_iconst (v := (-1)) hx hb dX8_mark_9 (by decide) ?_
  have hPc := hP.sub (ws' := [(h0, .inr (6, [.ref r_refused, .ref r_now, .ref r_then, .ref r_before, .ref r_asIs, .int 0, .ref r_tape, .int 0, .int 0, .int 0, .ref r_begins, .ref r_kinds, .int 0, .ref r_field, .ref r_willTeach, .ref r_isBack, .ref r_told, .ref r_bestSeats, .ref r_firstSeats, .int 0, .int 0, .int 0, .int 0, .int 0, .int 0, .int 0, .int 0, .int 0, .ref r_restLearn, .ref r_marksNow, .ref r_row, .int 0, .int 0])), (r_refused, .inl (cI, 7, .inl (fun _ => 0)))]) [1, 0] rfl
  have hDc := hD.sub (ws' := [(h0, .inr (6, [.ref r_refused, .ref r_now, .ref r_then, .ref r_before, .ref r_asIs, .int 0, .ref r_tape, .int 0, .int 0, .int 0, .ref r_begins, .ref r_kinds, .int 0, .ref r_field, .ref r_willTeach, .ref r_isBack, .ref r_told, .ref r_bestSeats, .ref r_firstSeats, .int 0, .int 0, .int 0, .int 0, .int 0, .int 0, .int 0, .int 0, .int 0, .ref r_restLearn, .ref r_marksNow, .ref r_row, .int 0, .int 0])), (r_refused, .inl (cI, 7, .inl (fun _ => 0)))]) [1, 0] (by decide) rfl
  refine vx_calli (wc := [(h0, .inr (6, [.ref r_refused, .ref r_now, .ref r_then, .ref r_before, .ref r_asIs, .int 0, .ref r_tape, .int 0, .int 0, .int 0, .ref r_begins, .ref r_kinds, .int 0, .ref r_field, .ref r_willTeach, .ref r_isBack, .ref r_told, .ref r_bestSeats, .ref r_firstSeats, .int 0, .int 0, .int 0, .int 0, .int 0, .int 0, .int 0, .int 0, .int 0, .ref r_restLearn, .ref r_marksNow, .ref r_row, .int 0, .int 0])), (r_refused, .inl (cI, 7, .inl (fun _ => 0)))]) (wr := [(r_now, .inl (cI, 80, .inl (upd (upd (upd (upd (fun _ => 0) 1 2) 3 1) 4 10) 5 1)))]) hP hD hS hA [1, 0] [2] rfl rfl (by decide) (by decide) (va_runV (As := [.int (-1)]) (rest := []) ⟨hx, hb, hml, hown, hts⟩ (r_no1 l dC dI cI cC cZ _ h0 r_refused r_now r_then r_before r_asIs r_tape r_begins r_kinds r_field r_willTeach r_isBack r_told r_bestSeats r_firstSeats r_restLearn r_marksNow r_row 0 0 0 0 0 0 0 0 0 0 0 0 0 0 0 0 0 (fun _ => 0) rfl) (cwV 1 hts gX8_mark_X8_no rfl rfl rfl (by decide +kernel) ⟨Nat.le_of_ble_eq_true rfl, Nat.le_of_ble_eq_true rfl⟩) ⟨vx_blind, va_recv hK hPc (ci := 6) (q0 := 0) rfl rfl, vx_pre hK hPc hDc⟩ rfl rfl hl.1 rfl (lv_room (Nat.le_of_ble_eq_true rfl)) dX8_mark_10 ⟨Nat.le_of_ble_eq_true rfl, Nat.le_of_ble_eq_true rfl⟩) (fun r5 u4 H locs hw6 hP hD hS => ?_)
  have hP : va_P (dC, dI) vwCl [(r_now, .inl (cI, 80, .inl (upd (upd (upd (upd (fun _ => 0) 1 2) 3 1) 4 10) 5 1))), (h0, .inr (6, [.ref r_refused, .ref r_now, .ref r_then, .ref r_before, .ref r_asIs, .int 0, .ref r_tape, .int 0, .int 0, .int 0, .ref r_begins, .ref r_kinds, .int 0, .ref r_field, .ref r_willTeach, .ref r_isBack, .ref r_told, .ref r_bestSeats, .ref r_firstSeats, .int 0, .int 0, .int 0, .int 0, .int 0, .int 0, .int 0, .int 0, .int 0, .ref r_restLearn, .ref r_marksNow, .ref r_row, .int 0, .int 0])), (r_refused, .inl (cI, 7, .inl (upd (fun _ => 0) 1 1)))] H := hP
  have hD : va_D A [(r_now, .inl (cI, 80, .inl (upd (upd (upd (upd (fun _ => 0) 1 2) 3 1) 4 10) 5 1))), (h0, .inr (6, [.ref r_refused, .ref r_now, .ref r_then, .ref r_before, .ref r_asIs, .int 0, .ref r_tape, .int 0, .int 0, .int 0, .ref r_begins, .ref r_kinds, .int 0, .ref r_field, .ref r_willTeach, .ref r_isBack, .ref r_told, .ref r_bestSeats, .ref r_firstSeats, .int 0, .int 0, .int 0, .int 0, .int 0, .int 0, .int 0, .int 0, .int 0, .ref r_restLearn, .ref r_marksNow, .ref r_row, .int 0, .int 0])), (r_refused, .inl (cI, 7, .inl (upd (fun _ => 0) 1 1)))] := hD
  have er5 : (-1) = r5 := Eq.symm hw6
  subst er5
  refine lv_goto (tgt := 27) hx hb dX8_mark_13 (by decide) ?_
  exact vx_iret (u := ()) hx hb hr hlocks hK hP hD hS [] rfl (by decide) rfl dX8_mark_27
set_option maxHeartbeats 4000000 in
set_option maxRecDepth 100000 in
theorem m_passed (l : Launch) (dC : Nat → ClassId) (dI : Nat → Nat → Nat) (cI cC cZ : ClassId) (sz : Nat) (h0 r_refused r_now r_then r_before r_asIs r_tape r_begins r_kinds r_field r_willTeach r_isBack r_told r_bestSeats r_firstSeats r_restLearn r_marksNow r_row : Nat) : Met l yX8_passed wsX8_passed ({ frames := 1, cells := 0, slots := 0, locals := 22 }) (va_Pc [.ref h0] (vx_B (dC, dI) (vx_T cI cC cZ) sz [(h0, .inr (6, [.ref r_refused, .ref r_now, .ref r_then, .ref r_before, .ref r_asIs, .int 0, .ref r_tape, .int 0, .int 0, .int 0, .ref r_begins, .ref r_kinds, .int 0, .ref r_field, .ref r_willTeach, .ref r_isBack, .ref r_told, .ref r_bestSeats, .ref r_firstSeats, .int 0, .int 0, .int 0, .int 0, .int 0, .int 0, .int 0, .int 0, .int 0, .ref r_restLearn, .ref r_marksNow, .ref r_row, .int 0, .int 0])), (r_now, .inl (cI, 80, .inl (upd (upd (upd (upd (fun _ => 0) 1 2) 3 1) 4 10) 5 1)))])) (va_Qi (fun (r : Int32) (_ : Unit) => r = 0) (vx_C (dC, dI) (vx_T cI cC cZ) (va_A [(h0, .inr (6, [.ref r_refused, .ref r_now, .ref r_then, .ref r_before, .ref r_asIs, .int 0, .ref r_tape, .int 0, .int 0, .int 0, .ref r_begins, .ref r_kinds, .int 0, .ref r_field, .ref r_willTeach, .ref r_isBack, .ref r_told, .ref r_bestSeats, .ref r_firstSeats, .int 0, .int 0, .int 0, .int 0, .int 0, .int 0, .int 0, .int 0, .int 0, .ref r_restLearn, .ref r_marksNow, .ref r_row, .int 0, .int 0])), (r_now, .inl (cI, 80, .inl (upd (upd (upd (upd (fun _ => 0) 1 2) 3 1) 4 10) 5 1)))] sz) (fun (u : Unit) => [])) (va_A [(h0, .inr (6, [.ref r_refused, .ref r_now, .ref r_then, .ref r_before, .ref r_asIs, .int 0, .ref r_tape, .int 0, .int 0, .int 0, .ref r_begins, .ref r_kinds, .int 0, .ref r_field, .ref r_willTeach, .ref r_isBack, .ref r_told, .ref r_bestSeats, .ref r_firstSeats, .int 0, .int 0, .int 0, .int 0, .int 0, .int 0, .int 0, .int 0, .int 0, .ref r_restLearn, .ref r_marksNow, .ref r_row, .int 0, .int 0])), (r_now, .inl (cI, 80, .inl (upd (upd (upd (upd (fun _ => 0) 1 2) 3 1) 4 10) 5 1)))] sz)) 0 0 (va_A [(h0, .inr (6, [.ref r_refused, .ref r_now, .ref r_then, .ref r_before, .ref r_asIs, .int 0, .ref r_tape, .int 0, .int 0, .int 0, .ref r_begins, .ref r_kinds, .int 0, .ref r_field, .ref r_willTeach, .ref r_isBack, .ref r_told, .ref r_bestSeats, .ref r_firstSeats, .int 0, .int 0, .int 0, .int 0, .int 0, .int 0, .int 0, .int 0, .int 0, .ref r_restLearn, .ref r_marksNow, .ref r_row, .int 0, .int 0])), (r_now, .inl (cI, 80, .inl (upd (upd (upd (upd (fun _ => 0) 1 2) 3 1) 4 10) 5 1)))] sz) := by
  refine Met.ofW (cc := cX8_passed) (maxL := 1) (ret := (some .int)) (by decide) rfl ?_
  intro p e s m args below meth c s₁ B hml hv
  obtain ⟨rfl, hsz, hP, hK, hD0⟩ := hv
  have hx := B.exec
  have hb := B.bytes
  have hr := B.returns
  have hts := atoms_spec (ws := wsX8_passed) B.pre
  have hown : s.vm.findClass RX8 = some m.cls := findClass_of_methodNamed B.named
  have hlocks := B.notSynchronized
  subst hsz
  have hD := hD0.self (sz := s.heap.size)
  generalize hAe : va_A [(h0, .inr (6, [.ref r_refused, .ref r_now, .ref r_then, .ref r_before, .ref r_asIs, .int 0, .ref r_tape, .int 0, .int 0, .int 0, .ref r_begins, .ref r_kinds, .int 0, .ref r_field, .ref r_willTeach, .ref r_isBack, .ref r_told, .ref r_bestSeats, .ref r_firstSeats, .int 0, .int 0, .int 0, .int 0, .int 0, .int 0, .int 0, .int 0, .int 0, .ref r_restLearn, .ref r_marksNow, .ref r_row, .int 0, .int 0])), (r_now, .inl (cI, 80, .inl (upd (upd (upd (upd (fun _ => 0) 1 2) 3 1) 4 10) 5 1)))] s.heap.size = A at hD ⊢
  have hA : ∀ q : Nat, s.heap.size ≤ q → A q := fun q h => by rw [← hAe]; exact Or.inr h
  have hS : va_S A s.heap s.heap [] := va_S.rf
  have hl := lv_entry ([.ref h0]) (n := 1) (Nat.le_of_ble_eq_true rfl)
  rw [lg_entry_eq]
  generalize (lg_sl ([.ref h0]) ++ List.replicate (1 - (lg_sl ([.ref h0])).length) Slot.unset).toArray = ls at hl ⊢
  have hl : lv_has ls 1 [(0, .ref h0)] := hl
  refine lv_aload_n hx hb dX8_passed_0 rfl (lv_at hl 0 rfl) ?_
  have hPc := hP.sub (ws' := [(h0, .inr (6, [.ref r_refused, .ref r_now, .ref r_then, .ref r_before, .ref r_asIs, .int 0, .ref r_tape, .int 0, .int 0, .int 0, .ref r_begins, .ref r_kinds, .int 0, .ref r_field, .ref r_willTeach, .ref r_isBack, .ref r_told, .ref r_bestSeats, .ref r_firstSeats, .int 0, .int 0, .int 0, .int 0, .int 0, .int 0, .int 0, .int 0, .int 0, .ref r_restLearn, .ref r_marksNow, .ref r_row, .int 0, .int 0])), (r_now, .inl (cI, 80, .inl (upd (upd (upd (upd (fun _ => 0) 1 2) 3 1) 4 10) 5 1)))]) [0, 1] rfl
  have hDc := hD.sub (ws' := [(h0, .inr (6, [.ref r_refused, .ref r_now, .ref r_then, .ref r_before, .ref r_asIs, .int 0, .ref r_tape, .int 0, .int 0, .int 0, .ref r_begins, .ref r_kinds, .int 0, .ref r_field, .ref r_willTeach, .ref r_isBack, .ref r_told, .ref r_bestSeats, .ref r_firstSeats, .int 0, .int 0, .int 0, .int 0, .int 0, .int 0, .int 0, .int 0, .int 0, .ref r_restLearn, .ref r_marksNow, .ref r_row, .int 0, .int 0])), (r_now, .inl (cI, 80, .inl (upd (upd (upd (upd (fun _ => 0) 1 2) 3 1) 4 10) 5 1)))]) [0, 1] (by decide) rfl
  refine vx_calli (wc := [(h0, .inr (6, [.ref r_refused, .ref r_now, .ref r_then, .ref r_before, .ref r_asIs, .int 0, .ref r_tape, .int 0, .int 0, .int 0, .ref r_begins, .ref r_kinds, .int 0, .ref r_field, .ref r_willTeach, .ref r_isBack, .ref r_told, .ref r_bestSeats, .ref r_firstSeats, .int 0, .int 0, .int 0, .int 0, .int 0, .int 0, .int 0, .int 0, .int 0, .ref r_restLearn, .ref r_marksNow, .ref r_row, .int 0, .int 0])), (r_now, .inl (cI, 80, .inl (upd (upd (upd (upd (fun _ => 0) 1 2) 3 1) 4 10) 5 1)))]) (wr := []) hP hD hS hA [0, 1] [] rfl rfl (by decide) (by decide) (va_runV (As := []) (rest := []) ⟨hx, hb, hml, hown, hts⟩ (r_whoPass l dC dI cI cC cZ _ h0 r_refused r_now r_then r_before r_asIs r_tape r_begins r_kinds r_field r_willTeach r_isBack r_told r_bestSeats r_firstSeats r_restLearn r_marksNow r_row 0 0 0 0 0 0 0 0 0 0 0 0 0 0 0 0 (upd (upd (upd (upd (fun _ => 0) 1 2) 3 1) 4 10) 5 1) rfl) (cwV 0 hts gX8_passed_X8_whoPass rfl rfl rfl (by decide +kernel) ⟨Nat.le_of_ble_eq_true rfl, Nat.le_of_ble_eq_true rfl⟩) ⟨vx_blind, va_recv hK hPc (ci := 6) (q0 := 0) rfl rfl, vx_pre hK hPc hDc⟩ rfl rfl hl.1 rfl (lv_room (Nat.le_of_ble_eq_true rfl)) dX8_passed_1 ⟨Nat.le_of_ble_eq_true rfl, Nat.le_of_ble_eq_true rfl⟩) (fun r2 u1 H locs hw3 hP hD hS => ?_)
  have hP : va_P (dC, dI) vwCl [(h0, .inr (6, [.ref r_refused, .ref r_now, .ref r_then, .ref r_before, .ref r_asIs, .int 0, .ref r_tape, .int 0, .int 0, .int 0, .ref r_begins, .ref r_kinds, .int 0, .ref r_field, .ref r_willTeach, .ref r_isBack, .ref r_told, .ref r_bestSeats, .ref r_firstSeats, .int 0, .int 0, .int 0, .int 0, .int 0, .int 0, .int 0, .int 0, .int 0, .ref r_restLearn, .ref r_marksNow, .ref r_row, .int 0, .int 0])), (r_now, .inl (cI, 80, .inl (upd (upd (upd (upd (fun _ => 0) 1 2) 3 1) 4 10) 5 1)))] H := hP
  have hD : va_D A [(h0, .inr (6, [.ref r_refused, .ref r_now, .ref r_then, .ref r_before, .ref r_asIs, .int 0, .ref r_tape, .int 0, .int 0, .int 0, .ref r_begins, .ref r_kinds, .int 0, .ref r_field, .ref r_willTeach, .ref r_isBack, .ref r_told, .ref r_bestSeats, .ref r_firstSeats, .int 0, .int 0, .int 0, .int 0, .int 0, .int 0, .int 0, .int 0, .int 0, .ref r_restLearn, .ref r_marksNow, .ref r_row, .int 0, .int 0])), (r_now, .inl (cI, 80, .inl (upd (upd (upd (upd (fun _ => 0) 1 2) 3 1) 4 10) 5 1)))] := hD
  have er2 : 0 = r2 := Eq.symm hw3
  subst er2
  exact vx_iret (u := ()) hx hb hr hlocks hK hP hD hS [] rfl (by decide) rfl dX8_passed_4
set_option maxHeartbeats 4000000 in
set_option maxRecDepth 100000 in
theorem m_all (l : Launch) (dC : Nat → ClassId) (dI : Nat → Nat → Nat) (cI cC cZ : ClassId) (sz : Nat) (h0 r_refused r_now r_then r_before r_asIs r_tape r_begins r_kinds r_field r_willTeach r_isBack r_told r_bestSeats r_firstSeats r_restLearn r_marksNow r_row : Nat) : Met l yX8_all wsX8_all ({ frames := 1, cells := 0, slots := 0, locals := 23 }) (va_Pc [.ref h0] (vx_B (dC, dI) (vx_T cI cC cZ) sz [(h0, .inr (6, [.ref r_refused, .ref r_now, .ref r_then, .ref r_before, .ref r_asIs, .int 0, .ref r_tape, .int 0, .int 0, .int 0, .ref r_begins, .ref r_kinds, .int 0, .ref r_field, .ref r_willTeach, .ref r_isBack, .ref r_told, .ref r_bestSeats, .ref r_firstSeats, .int 0, .int 0, .int 0, .int 0, .int 0, .int 0, .int 0, .int 0, .int 0, .ref r_restLearn, .ref r_marksNow, .ref r_row, .int 0, .int 0])), (r_now, .inl (cI, 80, .inl (upd (upd (upd (upd (fun _ => 0) 1 2) 3 1) 4 10) 5 1)))])) (va_Qi (fun (r : Int32) (_ : Unit) => r = 0) (vx_C (dC, dI) (vx_T cI cC cZ) (va_A [(h0, .inr (6, [.ref r_refused, .ref r_now, .ref r_then, .ref r_before, .ref r_asIs, .int 0, .ref r_tape, .int 0, .int 0, .int 0, .ref r_begins, .ref r_kinds, .int 0, .ref r_field, .ref r_willTeach, .ref r_isBack, .ref r_told, .ref r_bestSeats, .ref r_firstSeats, .int 0, .int 0, .int 0, .int 0, .int 0, .int 0, .int 0, .int 0, .int 0, .ref r_restLearn, .ref r_marksNow, .ref r_row, .int 0, .int 0])), (r_now, .inl (cI, 80, .inl (upd (upd (upd (upd (fun _ => 0) 1 2) 3 1) 4 10) 5 1)))] sz) (fun (u : Unit) => [])) (va_A [(h0, .inr (6, [.ref r_refused, .ref r_now, .ref r_then, .ref r_before, .ref r_asIs, .int 0, .ref r_tape, .int 0, .int 0, .int 0, .ref r_begins, .ref r_kinds, .int 0, .ref r_field, .ref r_willTeach, .ref r_isBack, .ref r_told, .ref r_bestSeats, .ref r_firstSeats, .int 0, .int 0, .int 0, .int 0, .int 0, .int 0, .int 0, .int 0, .int 0, .ref r_restLearn, .ref r_marksNow, .ref r_row, .int 0, .int 0])), (r_now, .inl (cI, 80, .inl (upd (upd (upd (upd (fun _ => 0) 1 2) 3 1) 4 10) 5 1)))] sz)) 0 0 (va_A [(h0, .inr (6, [.ref r_refused, .ref r_now, .ref r_then, .ref r_before, .ref r_asIs, .int 0, .ref r_tape, .int 0, .int 0, .int 0, .ref r_begins, .ref r_kinds, .int 0, .ref r_field, .ref r_willTeach, .ref r_isBack, .ref r_told, .ref r_bestSeats, .ref r_firstSeats, .int 0, .int 0, .int 0, .int 0, .int 0, .int 0, .int 0, .int 0, .int 0, .ref r_restLearn, .ref r_marksNow, .ref r_row, .int 0, .int 0])), (r_now, .inl (cI, 80, .inl (upd (upd (upd (upd (fun _ => 0) 1 2) 3 1) 4 10) 5 1)))] sz) := by
  refine Met.ofW (cc := cX8_all) (maxL := 1) (ret := (some .int)) (by decide) rfl ?_
  intro p e s m args below meth c s₁ B hml hv
  obtain ⟨rfl, hsz, hP, hK, hD0⟩ := hv
  have hx := B.exec
  have hb := B.bytes
  have hr := B.returns
  have hts := atoms_spec (ws := wsX8_all) B.pre
  have hown : s.vm.findClass RX8 = some m.cls := findClass_of_methodNamed B.named
  have hlocks := B.notSynchronized
  subst hsz
  have hD := hD0.self (sz := s.heap.size)
  generalize hAe : va_A [(h0, .inr (6, [.ref r_refused, .ref r_now, .ref r_then, .ref r_before, .ref r_asIs, .int 0, .ref r_tape, .int 0, .int 0, .int 0, .ref r_begins, .ref r_kinds, .int 0, .ref r_field, .ref r_willTeach, .ref r_isBack, .ref r_told, .ref r_bestSeats, .ref r_firstSeats, .int 0, .int 0, .int 0, .int 0, .int 0, .int 0, .int 0, .int 0, .int 0, .ref r_restLearn, .ref r_marksNow, .ref r_row, .int 0, .int 0])), (r_now, .inl (cI, 80, .inl (upd (upd (upd (upd (fun _ => 0) 1 2) 3 1) 4 10) 5 1)))] s.heap.size = A at hD ⊢
  have hA : ∀ q : Nat, s.heap.size ≤ q → A q := fun q h => by rw [← hAe]; exact Or.inr h
  have hS : va_S A s.heap s.heap [] := va_S.rf
  have hl := lv_entry ([.ref h0]) (n := 1) (Nat.le_of_ble_eq_true rfl)
  rw [lg_entry_eq]
  generalize (lg_sl ([.ref h0]) ++ List.replicate (1 - (lg_sl ([.ref h0])).length) Slot.unset).toArray = ls at hl ⊢
  have hl : lv_has ls 1 [(0, .ref h0)] := hl
  have iX8 : ∀ w ∈ u_ws RX8 TX8 33, w ∈ wsX8_all := by decide +kernel
  refine lv_aload_n hx hb dX8_all_0 rfl (lv_at hl 0 rfl) ?_
  refine lv_aload_n hx hb dX8_all_1 rfl (lv_at hl 0 rfl) ?_
  refine va_get (D := (dC, dI)) (ci := 6) (v := .ref r_now) (C := RX8) (T := TX8) (N := 33) hx hb hts iX8 hown hK hP 0 rfl rfl 1 (by decide) (hts (.fieldLink RX8 13 "NeighboursMarkModel" "now" "[I") (by decide +kernel)) (fun _ h9 => h9) rfl dX8_all_2 ?_
  refine lv_iconst (v := 3) hx hb dX8_all_5 (by decide) ?_
  refine va_iald hx hb hK hP 1 0 rfl rfl (by unfold vp_in; decide) dX8_all_6 ?_
  refine lv_topi (fun x1 ex1 => ?_)
  have ex1 : 1 = x1 := (ex1.trans rfl).symm
  subst ex1
  have hPc := hP.sub (ws' := [(h0, .inr (6, [.ref r_refused, .ref r_now, .ref r_then, .ref r_before, .ref r_asIs, .int 0, .ref r_tape, .int 0, .int 0, .int 0, .ref r_begins, .ref r_kinds, .int 0, .ref r_field, .ref r_willTeach, .ref r_isBack, .ref r_told, .ref r_bestSeats, .ref r_firstSeats, .int 0, .int 0, .int 0, .int 0, .int 0, .int 0, .int 0, .int 0, .int 0, .ref r_restLearn, .ref r_marksNow, .ref r_row, .int 0, .int 0])), (r_now, .inl (cI, 80, .inl (upd (upd (upd (upd (fun _ => 0) 1 2) 3 1) 4 10) 5 1)))]) [0, 1] rfl
  have hDc := hD.sub (ws' := [(h0, .inr (6, [.ref r_refused, .ref r_now, .ref r_then, .ref r_before, .ref r_asIs, .int 0, .ref r_tape, .int 0, .int 0, .int 0, .ref r_begins, .ref r_kinds, .int 0, .ref r_field, .ref r_willTeach, .ref r_isBack, .ref r_told, .ref r_bestSeats, .ref r_firstSeats, .int 0, .int 0, .int 0, .int 0, .int 0, .int 0, .int 0, .int 0, .int 0, .ref r_restLearn, .ref r_marksNow, .ref r_row, .int 0, .int 0])), (r_now, .inl (cI, 80, .inl (upd (upd (upd (upd (fun _ => 0) 1 2) 3 1) 4 10) 5 1)))]) [0, 1] (by decide) rfl
  refine vx_calli (wc := [(h0, .inr (6, [.ref r_refused, .ref r_now, .ref r_then, .ref r_before, .ref r_asIs, .int 0, .ref r_tape, .int 0, .int 0, .int 0, .ref r_begins, .ref r_kinds, .int 0, .ref r_field, .ref r_willTeach, .ref r_isBack, .ref r_told, .ref r_bestSeats, .ref r_firstSeats, .int 0, .int 0, .int 0, .int 0, .int 0, .int 0, .int 0, .int 0, .int 0, .ref r_restLearn, .ref r_marksNow, .ref r_row, .int 0, .int 0])), (r_now, .inl (cI, 80, .inl (upd (upd (upd (upd (fun _ => 0) 1 2) 3 1) 4 10) 5 1)))]) (wr := []) hP hD hS hA [0, 1] [] rfl rfl (by decide) (by decide) (va_runV (As := [.int 1]) (rest := []) ⟨hx, hb, hml, hown, hts⟩ (r_together l dC dI cI cC cZ _ h0 r_refused r_now r_then r_before r_asIs r_tape r_begins r_kinds r_field r_willTeach r_isBack r_told r_bestSeats r_firstSeats r_restLearn r_marksNow r_row 0 0 0 0 0 0 0 0 0 0 0 0 0 0 0 0 1 (upd (upd (upd (upd (fun _ => 0) 1 2) 3 1) 4 10) 5 1) rfl) (cwV 1 hts gX8_all_X8_together rfl rfl rfl (by decide +kernel) ⟨Nat.le_of_ble_eq_true rfl, Nat.le_of_ble_eq_true rfl⟩) ⟨vx_blind, va_recv hK hPc (ci := 6) (q0 := 0) rfl rfl, vx_pre hK hPc hDc⟩ rfl rfl hl.1 rfl (lv_room (Nat.le_of_ble_eq_true rfl)) dX8_all_7 ⟨Nat.le_of_ble_eq_true rfl, Nat.le_of_ble_eq_true rfl⟩) (fun r3 u2 H locs hw4 hP hD hS => ?_)
  have hP : va_P (dC, dI) vwCl [(h0, .inr (6, [.ref r_refused, .ref r_now, .ref r_then, .ref r_before, .ref r_asIs, .int 0, .ref r_tape, .int 0, .int 0, .int 0, .ref r_begins, .ref r_kinds, .int 0, .ref r_field, .ref r_willTeach, .ref r_isBack, .ref r_told, .ref r_bestSeats, .ref r_firstSeats, .int 0, .int 0, .int 0, .int 0, .int 0, .int 0, .int 0, .int 0, .int 0, .ref r_restLearn, .ref r_marksNow, .ref r_row, .int 0, .int 0])), (r_now, .inl (cI, 80, .inl (upd (upd (upd (upd (fun _ => 0) 1 2) 3 1) 4 10) 5 1)))] H := hP
  have hD : va_D A [(h0, .inr (6, [.ref r_refused, .ref r_now, .ref r_then, .ref r_before, .ref r_asIs, .int 0, .ref r_tape, .int 0, .int 0, .int 0, .ref r_begins, .ref r_kinds, .int 0, .ref r_field, .ref r_willTeach, .ref r_isBack, .ref r_told, .ref r_bestSeats, .ref r_firstSeats, .int 0, .int 0, .int 0, .int 0, .int 0, .int 0, .int 0, .int 0, .int 0, .ref r_restLearn, .ref r_marksNow, .ref r_row, .int 0, .int 0])), (r_now, .inl (cI, 80, .inl (upd (upd (upd (upd (fun _ => 0) 1 2) 3 1) 4 10) 5 1)))] := hD
  have er3 : 0 = r3 := Eq.symm hw4
  subst er3
  exact vx_iret (u := ()) hx hb hr hlocks hK hP hD hS [] rfl (by decide) rfl dX8_all_10
theorem zz_m_best_0 (a : Int32) (h0 : a < (0 : Int32)) : ((-2) : Int32) = f_best a := by
  have e0 : ((-3) : Int32).toInt = -3 := by decide
  have e1 : ((-2) : Int32).toInt = -2 := by decide
  have e2 : (0 : Int32).toInt = 0 := by decide
  have e3 : (1 : Int32).toInt = 1 := by decide
  have e4 : (32 : Int32).toInt = 32 := by decide
  unfold f_best
  (repeat' split) <;> first | rfl | (exfalso; simp only [Int32.lt_iff_toInt_lt, Int32.le_iff_toInt_le, ← Int32.toInt_inj, e0, e1, e2, e3, e4] at * <;> omega)
theorem zz_m_best_1 (a : Int32) (h0 : ¬ a < (0 : Int32)) (h1 : a ≤ (1 : Int32)) : ((-3) : Int32) = f_best a := by
  have e0 : ((-3) : Int32).toInt = -3 := by decide
  have e1 : ((-2) : Int32).toInt = -2 := by decide
  have e2 : (0 : Int32).toInt = 0 := by decide
  have e3 : (1 : Int32).toInt = 1 := by decide
  have e4 : (32 : Int32).toInt = 32 := by decide
  unfold f_best
  (repeat' split) <;> first | rfl | (exfalso; simp only [Int32.lt_iff_toInt_lt, Int32.le_iff_toInt_le, ← Int32.toInt_inj, e0, e1, e2, e3, e4] at * <;> omega)
theorem zz_m_best_2 (a : Int32) (h0 : ¬ a < (0 : Int32)) (h1 : ¬ a ≤ (1 : Int32)) : ((-2) : Int32) = f_best a := by
  have e0 : ((-3) : Int32).toInt = -3 := by decide
  have e1 : ((-2) : Int32).toInt = -2 := by decide
  have e2 : (0 : Int32).toInt = 0 := by decide
  have e3 : (1 : Int32).toInt = 1 := by decide
  have e4 : (32 : Int32).toInt = 32 := by decide
  unfold f_best
  (repeat' split) <;> first | rfl | (exfalso; simp only [Int32.lt_iff_toInt_lt, Int32.le_iff_toInt_le, ← Int32.toInt_inj, e0, e1, e2, e3, e4] at * <;> omega)
set_option maxHeartbeats 4000000 in
set_option maxRecDepth 100000 in
theorem m_best (l : Launch) (dC : Nat → ClassId) (dI : Nat → Nat → Nat) (cI cC cZ : ClassId) (sz : Nat) (h0 r_refused r_now r_then r_before r_asIs r_tape r_begins r_kinds r_field r_willTeach r_isBack r_told r_bestSeats r_firstSeats r_restLearn r_marksNow r_row : Nat) (a : Int32) : Met l yX8_best wsX8_best ({ frames := 1, cells := 0, slots := 0, locals := 21 }) (va_Pc [.ref h0, .int a] (vx_B (dC, dI) (vx_T cI cC cZ) sz [(h0, .inr (6, [.ref r_refused, .ref r_now, .ref r_then, .ref r_before, .ref r_asIs, .int 0, .ref r_tape, .int 0, .int 0, .int 0, .ref r_begins, .ref r_kinds, .int 0, .ref r_field, .ref r_willTeach, .ref r_isBack, .ref r_told, .ref r_bestSeats, .ref r_firstSeats, .int 0, .int 0, .int 0, .int 0, .int 0, .int 0, .int 0, .int 0, .int 0, .ref r_restLearn, .ref r_marksNow, .ref r_row, .int 0, .int 0])), (r_refused, .inl (cI, 7, .inl (fun _ => 0))), (r_now, .inl (cI, 80, .inl (upd (upd (upd (upd (fun _ => 0) 1 2) 3 1) 4 10) 5 1)))])) (va_Qi (fun (r : Int32) (_ : Unit) => r = f_best a) (vx_C (dC, dI) (vx_T cI cC cZ) (va_A [(h0, .inr (6, [.ref r_refused, .ref r_now, .ref r_then, .ref r_before, .ref r_asIs, .int 0, .ref r_tape, .int 0, .int 0, .int 0, .ref r_begins, .ref r_kinds, .int 0, .ref r_field, .ref r_willTeach, .ref r_isBack, .ref r_told, .ref r_bestSeats, .ref r_firstSeats, .int 0, .int 0, .int 0, .int 0, .int 0, .int 0, .int 0, .int 0, .int 0, .ref r_restLearn, .ref r_marksNow, .ref r_row, .int 0, .int 0])), (r_refused, .inl (cI, 7, .inl (fun _ => 0))), (r_now, .inl (cI, 80, .inl (upd (upd (upd (upd (fun _ => 0) 1 2) 3 1) 4 10) 5 1)))] sz) (fun (u : Unit) => [])) (va_A [(h0, .inr (6, [.ref r_refused, .ref r_now, .ref r_then, .ref r_before, .ref r_asIs, .int 0, .ref r_tape, .int 0, .int 0, .int 0, .ref r_begins, .ref r_kinds, .int 0, .ref r_field, .ref r_willTeach, .ref r_isBack, .ref r_told, .ref r_bestSeats, .ref r_firstSeats, .int 0, .int 0, .int 0, .int 0, .int 0, .int 0, .int 0, .int 0, .int 0, .ref r_restLearn, .ref r_marksNow, .ref r_row, .int 0, .int 0])), (r_refused, .inl (cI, 7, .inl (fun _ => 0))), (r_now, .inl (cI, 80, .inl (upd (upd (upd (upd (fun _ => 0) 1 2) 3 1) 4 10) 5 1)))] sz)) 0 0 (va_A [(h0, .inr (6, [.ref r_refused, .ref r_now, .ref r_then, .ref r_before, .ref r_asIs, .int 0, .ref r_tape, .int 0, .int 0, .int 0, .ref r_begins, .ref r_kinds, .int 0, .ref r_field, .ref r_willTeach, .ref r_isBack, .ref r_told, .ref r_bestSeats, .ref r_firstSeats, .int 0, .int 0, .int 0, .int 0, .int 0, .int 0, .int 0, .int 0, .int 0, .ref r_restLearn, .ref r_marksNow, .ref r_row, .int 0, .int 0])), (r_refused, .inl (cI, 7, .inl (fun _ => 0))), (r_now, .inl (cI, 80, .inl (upd (upd (upd (upd (fun _ => 0) 1 2) 3 1) 4 10) 5 1)))] sz) := by
  refine Met.ofW (cc := cX8_best) (maxL := 2) (ret := (some .int)) (by decide) rfl ?_
  intro p e s m args below meth c s₁ B hml hv
  obtain ⟨rfl, hsz, hP, hK, hD0⟩ := hv
  have hx := B.exec
  have hb := B.bytes
  have hr := B.returns
  have hts := atoms_spec (ws := wsX8_best) B.pre
  have hown : s.vm.findClass RX8 = some m.cls := findClass_of_methodNamed B.named
  have hlocks := B.notSynchronized
  subst hsz
  have hD := hD0.self (sz := s.heap.size)
  generalize hAe : va_A [(h0, .inr (6, [.ref r_refused, .ref r_now, .ref r_then, .ref r_before, .ref r_asIs, .int 0, .ref r_tape, .int 0, .int 0, .int 0, .ref r_begins, .ref r_kinds, .int 0, .ref r_field, .ref r_willTeach, .ref r_isBack, .ref r_told, .ref r_bestSeats, .ref r_firstSeats, .int 0, .int 0, .int 0, .int 0, .int 0, .int 0, .int 0, .int 0, .int 0, .ref r_restLearn, .ref r_marksNow, .ref r_row, .int 0, .int 0])), (r_refused, .inl (cI, 7, .inl (fun _ => 0))), (r_now, .inl (cI, 80, .inl (upd (upd (upd (upd (fun _ => 0) 1 2) 3 1) 4 10) 5 1)))] s.heap.size = A at hD ⊢
  have hA : ∀ q : Nat, s.heap.size ≤ q → A q := fun q h => by rw [← hAe]; exact Or.inr h
  have hS : va_S A s.heap s.heap [] := va_S.rf
  have hl := lv_entry ([.ref h0, .int a]) (n := 2) (Nat.le_of_ble_eq_true rfl)
  rw [lg_entry_eq]
  generalize (lg_sl ([.ref h0, .int a]) ++ List.replicate (2 - (lg_sl ([.ref h0, .int a])).length) Slot.unset).toArray = ls at hl ⊢
  have hl : lv_has ls 2 [(0, .ref h0), (1, .int a)] := hl
  have iX8 : ∀ w ∈ u_ws RX8 TX8 33, w ∈ wsX8_best := by decide +kernel
  refine lv_iload_n hx hb dX8_best_0 rfl (lv_at hl 1 rfl) ?_
  refine lv_if_lt (tgt := 9) hx hb dX8_best_1 (by decide) (fun c1 => ?_) (fun c1 => ?_)
  · skip
    refine lv_aload_n hx hb dX8_best_9 rfl (lv_at hl 0 rfl) ?_
    refine lv_bipush (v := (-2)) hx hb dX8_best_10 (by decide) ?_
    have hPc := hP.sub (ws' := [(h0, .inr (6, [.ref r_refused, .ref r_now, .ref r_then, .ref r_before, .ref r_asIs, .int 0, .ref r_tape, .int 0, .int 0, .int 0, .ref r_begins, .ref r_kinds, .int 0, .ref r_field, .ref r_willTeach, .ref r_isBack, .ref r_told, .ref r_bestSeats, .ref r_firstSeats, .int 0, .int 0, .int 0, .int 0, .int 0, .int 0, .int 0, .int 0, .int 0, .ref r_restLearn, .ref r_marksNow, .ref r_row, .int 0, .int 0])), (r_refused, .inl (cI, 7, .inl (fun _ => 0)))]) [0, 1] rfl
    have hDc := hD.sub (ws' := [(h0, .inr (6, [.ref r_refused, .ref r_now, .ref r_then, .ref r_before, .ref r_asIs, .int 0, .ref r_tape, .int 0, .int 0, .int 0, .ref r_begins, .ref r_kinds, .int 0, .ref r_field, .ref r_willTeach, .ref r_isBack, .ref r_told, .ref r_bestSeats, .ref r_firstSeats, .int 0, .int 0, .int 0, .int 0, .int 0, .int 0, .int 0, .int 0, .int 0, .ref r_restLearn, .ref r_marksNow, .ref r_row, .int 0, .int 0])), (r_refused, .inl (cI, 7, .inl (fun _ => 0)))]) [0, 1] (by decide) rfl
    refine vx_calli (wc := [(h0, .inr (6, [.ref r_refused, .ref r_now, .ref r_then, .ref r_before, .ref r_asIs, .int 0, .ref r_tape, .int 0, .int 0, .int 0, .ref r_begins, .ref r_kinds, .int 0, .ref r_field, .ref r_willTeach, .ref r_isBack, .ref r_told, .ref r_bestSeats, .ref r_firstSeats, .int 0, .int 0, .int 0, .int 0, .int 0, .int 0, .int 0, .int 0, .int 0, .ref r_restLearn, .ref r_marksNow, .ref r_row, .int 0, .int 0])), (r_refused, .inl (cI, 7, .inl (fun _ => 0)))]) (wr := [(r_now, .inl (cI, 80, .inl (upd (upd (upd (upd (fun _ => 0) 1 2) 3 1) 4 10) 5 1)))]) hP hD hS hA [0, 1] [2] rfl rfl (by decide) (by decide) (va_runV (As := [.int (-2)]) (rest := []) ⟨hx, hb, hml, hown, hts⟩ (r_no2 l dC dI cI cC cZ _ h0 r_refused r_now r_then r_before r_asIs r_tape r_begins r_kinds r_field r_willTeach r_isBack r_told r_bestSeats r_firstSeats r_restLearn r_marksNow r_row 0 0 0 0 0 0 0 0 0 0 0 0 0 0 0 0 0 (fun _ => 0) rfl) (cwV 1 hts gX8_best_X8_no rfl rfl rfl (by decide +kernel) ⟨Nat.le_of_ble_eq_true rfl, Nat.le_of_ble_eq_true rfl⟩) ⟨vx_blind, va_recv hK hPc (ci := 6) (q0 := 0) rfl rfl, vx_pre hK hPc hDc⟩ rfl rfl hl.1 rfl (lv_room (Nat.le_of_ble_eq_true rfl)) dX8_best_12 ⟨Nat.le_of_ble_eq_true rfl, Nat.le_of_ble_eq_true rfl⟩) (fun r3 u2 H locs hw4 hP hD hS => ?_)
    have hP : va_P (dC, dI) vwCl [(r_now, .inl (cI, 80, .inl (upd (upd (upd (upd (fun _ => 0) 1 2) 3 1) 4 10) 5 1))), (h0, .inr (6, [.ref r_refused, .ref r_now, .ref r_then, .ref r_before, .ref r_asIs, .int 0, .ref r_tape, .int 0, .int 0, .int 0, .ref r_begins, .ref r_kinds, .int 0, .ref r_field, .ref r_willTeach, .ref r_isBack, .ref r_told, .ref r_bestSeats, .ref r_firstSeats, .int 0, .int 0, .int 0, .int 0, .int 0, .int 0, .int 0, .int 0, .int 0, .ref r_restLearn, .ref r_marksNow, .ref r_row, .int 0, .int 0])), (r_refused, .inl (cI, 7, .inl (upd (fun _ => 0) 2 1)))] H := hP
    have hD : va_D A [(r_now, .inl (cI, 80, .inl (upd (upd (upd (upd (fun _ => 0) 1 2) 3 1) 4 10) 5 1))), (h0, .inr (6, [.ref r_refused, .ref r_now, .ref r_then, .ref r_before, .ref r_asIs, .int 0, .ref r_tape, .int 0, .int 0, .int 0, .ref r_begins, .ref r_kinds, .int 0, .ref r_field, .ref r_willTeach, .ref r_isBack, .ref r_told, .ref r_bestSeats, .ref r_firstSeats, .int 0, .int 0, .int 0, .int 0, .int 0, .int 0, .int 0, .int 0, .int 0, .ref r_restLearn, .ref r_marksNow, .ref r_row, .int 0, .int 0])), (r_refused, .inl (cI, 7, .inl (upd (fun _ => 0) 2 1)))] := hD
    have er3 : (-2) = r3 := Eq.symm hw4
    subst er3
    exact vx_iret (u := ()) hx hb hr hlocks hK hP hD hS [] rfl (by decide) (zz_m_best_0 a c1) dX8_best_15
  · skip
    refine lv_iload_n hx hb dX8_best_4 rfl (lv_at hl 1 rfl) ?_
    refine lv_iconst (v := 1) hx hb dX8_best_5 (by decide) ?_
    refine lv_icmp_le (tgt := 16) hx hb dX8_best_6 (by decide) (fun c5 => ?_) (fun c5 => ?_)
    · skip
      refine lv_aload_n hx hb dX8_best_16 rfl (lv_at hl 0 rfl) ?_
      refine va_get (D := (dC, dI)) (ci := 6) (v := .ref r_now) (C := RX8) (T := TX8) (N := 33) hx hb hts iX8 hown hK hP 0 rfl rfl 1 (by decide) (hts (.fieldLink RX8 13 "NeighboursMarkModel" "now" "[I") (by decide +kernel)) (fun _ h9 => h9) rfl dX8_best_17 ?_
      refine lv_iconst (v := 0) hx hb dX8_best_20 (by decide) ?_
      refine va_iald hx hb hK hP 2 0 rfl rfl (by unfold vp_in; decide) dX8_best_21 ?_
      refine lv_topi (fun x6 ex6 => ?_)
      have ex6 : 0 = x6 := (ex6.trans rfl).symm
      subst ex6
      refine lv_if_ne (tgt := 32) hx hb dX8_best_22 (by decide) (fun c0 => absurd (by decide) c0) (fun _ => ?_)
      refine lv_aload_n hx hb dX8_best_25 rfl (lv_at hl 0 rfl) ?_
      refine lv_bipush (v := (-3)) hx hb dX8_best_26 (by decide) ?_
      have hPc := hP.sub (ws' := [(h0, .inr (6, [.ref r_refused, .ref r_now, .ref r_then, .ref r_before, .ref r_asIs, .int 0, .ref r_tape, .int 0, .int 0, .int 0, .ref r_begins, .ref r_kinds, .int 0, .ref r_field, .ref r_willTeach, .ref r_isBack, .ref r_told, .ref r_bestSeats, .ref r_firstSeats, .int 0, .int 0, .int 0, .int 0, .int 0, .int 0, .int 0, .int 0, .int 0, .ref r_restLearn, .ref r_marksNow, .ref r_row, .int 0, .int 0])), (r_refused, .inl (cI, 7, .inl (fun _ => 0)))]) [0, 1] rfl
      have hDc := hD.sub (ws' := [(h0, .inr (6, [.ref r_refused, .ref r_now, .ref r_then, .ref r_before, .ref r_asIs, .int 0, .ref r_tape, .int 0, .int 0, .int 0, .ref r_begins, .ref r_kinds, .int 0, .ref r_field, .ref r_willTeach, .ref r_isBack, .ref r_told, .ref r_bestSeats, .ref r_firstSeats, .int 0, .int 0, .int 0, .int 0, .int 0, .int 0, .int 0, .int 0, .int 0, .ref r_restLearn, .ref r_marksNow, .ref r_row, .int 0, .int 0])), (r_refused, .inl (cI, 7, .inl (fun _ => 0)))]) [0, 1] (by decide) rfl
      refine vx_calli (wc := [(h0, .inr (6, [.ref r_refused, .ref r_now, .ref r_then, .ref r_before, .ref r_asIs, .int 0, .ref r_tape, .int 0, .int 0, .int 0, .ref r_begins, .ref r_kinds, .int 0, .ref r_field, .ref r_willTeach, .ref r_isBack, .ref r_told, .ref r_bestSeats, .ref r_firstSeats, .int 0, .int 0, .int 0, .int 0, .int 0, .int 0, .int 0, .int 0, .int 0, .ref r_restLearn, .ref r_marksNow, .ref r_row, .int 0, .int 0])), (r_refused, .inl (cI, 7, .inl (fun _ => 0)))]) (wr := [(r_now, .inl (cI, 80, .inl (upd (upd (upd (upd (fun _ => 0) 1 2) 3 1) 4 10) 5 1)))]) hP hD hS hA [0, 1] [2] rfl rfl (by decide) (by decide) (va_runV (As := [.int (-3)]) (rest := []) ⟨hx, hb, hml, hown, hts⟩ (r_no3 l dC dI cI cC cZ _ h0 r_refused r_now r_then r_before r_asIs r_tape r_begins r_kinds r_field r_willTeach r_isBack r_told r_bestSeats r_firstSeats r_restLearn r_marksNow r_row 0 0 0 0 0 0 0 0 0 0 0 0 0 0 0 0 0 (fun _ => 0) rfl) (cwV 1 hts gX8_best_X8_no rfl rfl rfl (by decide +kernel) ⟨Nat.le_of_ble_eq_true rfl, Nat.le_of_ble_eq_true rfl⟩) ⟨vx_blind, va_recv hK hPc (ci := 6) (q0 := 0) rfl rfl, vx_pre hK hPc hDc⟩ rfl rfl hl.1 rfl (lv_room (Nat.le_of_ble_eq_true rfl)) dX8_best_28 ⟨Nat.le_of_ble_eq_true rfl, Nat.le_of_ble_eq_true rfl⟩) (fun r8 u7 H locs hw9 hP hD hS => ?_)
      have hP : va_P (dC, dI) vwCl [(r_now, .inl (cI, 80, .inl (upd (upd (upd (upd (fun _ => 0) 1 2) 3 1) 4 10) 5 1))), (h0, .inr (6, [.ref r_refused, .ref r_now, .ref r_then, .ref r_before, .ref r_asIs, .int 0, .ref r_tape, .int 0, .int 0, .int 0, .ref r_begins, .ref r_kinds, .int 0, .ref r_field, .ref r_willTeach, .ref r_isBack, .ref r_told, .ref r_bestSeats, .ref r_firstSeats, .int 0, .int 0, .int 0, .int 0, .int 0, .int 0, .int 0, .int 0, .int 0, .ref r_restLearn, .ref r_marksNow, .ref r_row, .int 0, .int 0])), (r_refused, .inl (cI, 7, .inl (upd (fun _ => 0) 3 1)))] H := hP
      have hD : va_D A [(r_now, .inl (cI, 80, .inl (upd (upd (upd (upd (fun _ => 0) 1 2) 3 1) 4 10) 5 1))), (h0, .inr (6, [.ref r_refused, .ref r_now, .ref r_then, .ref r_before, .ref r_asIs, .int 0, .ref r_tape, .int 0, .int 0, .int 0, .ref r_begins, .ref r_kinds, .int 0, .ref r_field, .ref r_willTeach, .ref r_isBack, .ref r_told, .ref r_bestSeats, .ref r_firstSeats, .int 0, .int 0, .int 0, .int 0, .int 0, .int 0, .int 0, .int 0, .int 0, .ref r_restLearn, .ref r_marksNow, .ref r_row, .int 0, .int 0])), (r_refused, .inl (cI, 7, .inl (upd (fun _ => 0) 3 1)))] := hD
      have er8 : (-3) = r8 := Eq.symm hw9
      subst er8
      exact vx_iret (u := ()) hx hb hr hlocks hK hP hD hS [] rfl (by decide) (zz_m_best_1 a c1 c5) dX8_best_31
    · skip
      refine lv_aload_n hx hb dX8_best_9 rfl (lv_at hl 0 rfl) ?_
      refine lv_bipush (v := (-2)) hx hb dX8_best_10 (by decide) ?_
      have hPc := hP.sub (ws' := [(h0, .inr (6, [.ref r_refused, .ref r_now, .ref r_then, .ref r_before, .ref r_asIs, .int 0, .ref r_tape, .int 0, .int 0, .int 0, .ref r_begins, .ref r_kinds, .int 0, .ref r_field, .ref r_willTeach, .ref r_isBack, .ref r_told, .ref r_bestSeats, .ref r_firstSeats, .int 0, .int 0, .int 0, .int 0, .int 0, .int 0, .int 0, .int 0, .int 0, .ref r_restLearn, .ref r_marksNow, .ref r_row, .int 0, .int 0])), (r_refused, .inl (cI, 7, .inl (fun _ => 0)))]) [0, 1] rfl
      have hDc := hD.sub (ws' := [(h0, .inr (6, [.ref r_refused, .ref r_now, .ref r_then, .ref r_before, .ref r_asIs, .int 0, .ref r_tape, .int 0, .int 0, .int 0, .ref r_begins, .ref r_kinds, .int 0, .ref r_field, .ref r_willTeach, .ref r_isBack, .ref r_told, .ref r_bestSeats, .ref r_firstSeats, .int 0, .int 0, .int 0, .int 0, .int 0, .int 0, .int 0, .int 0, .int 0, .ref r_restLearn, .ref r_marksNow, .ref r_row, .int 0, .int 0])), (r_refused, .inl (cI, 7, .inl (fun _ => 0)))]) [0, 1] (by decide) rfl
      refine vx_calli (wc := [(h0, .inr (6, [.ref r_refused, .ref r_now, .ref r_then, .ref r_before, .ref r_asIs, .int 0, .ref r_tape, .int 0, .int 0, .int 0, .ref r_begins, .ref r_kinds, .int 0, .ref r_field, .ref r_willTeach, .ref r_isBack, .ref r_told, .ref r_bestSeats, .ref r_firstSeats, .int 0, .int 0, .int 0, .int 0, .int 0, .int 0, .int 0, .int 0, .int 0, .ref r_restLearn, .ref r_marksNow, .ref r_row, .int 0, .int 0])), (r_refused, .inl (cI, 7, .inl (fun _ => 0)))]) (wr := [(r_now, .inl (cI, 80, .inl (upd (upd (upd (upd (fun _ => 0) 1 2) 3 1) 4 10) 5 1)))]) hP hD hS hA [0, 1] [2] rfl rfl (by decide) (by decide) (va_runV (As := [.int (-2)]) (rest := []) ⟨hx, hb, hml, hown, hts⟩ (r_no2 l dC dI cI cC cZ _ h0 r_refused r_now r_then r_before r_asIs r_tape r_begins r_kinds r_field r_willTeach r_isBack r_told r_bestSeats r_firstSeats r_restLearn r_marksNow r_row 0 0 0 0 0 0 0 0 0 0 0 0 0 0 0 0 0 (fun _ => 0) rfl) (cwV 1 hts gX8_best_X8_no rfl rfl rfl (by decide +kernel) ⟨Nat.le_of_ble_eq_true rfl, Nat.le_of_ble_eq_true rfl⟩) ⟨vx_blind, va_recv hK hPc (ci := 6) (q0 := 0) rfl rfl, vx_pre hK hPc hDc⟩ rfl rfl hl.1 rfl (lv_room (Nat.le_of_ble_eq_true rfl)) dX8_best_12 ⟨Nat.le_of_ble_eq_true rfl, Nat.le_of_ble_eq_true rfl⟩) (fun r11 u10 H locs hw12 hP hD hS => ?_)
      have hP : va_P (dC, dI) vwCl [(r_now, .inl (cI, 80, .inl (upd (upd (upd (upd (fun _ => 0) 1 2) 3 1) 4 10) 5 1))), (h0, .inr (6, [.ref r_refused, .ref r_now, .ref r_then, .ref r_before, .ref r_asIs, .int 0, .ref r_tape, .int 0, .int 0, .int 0, .ref r_begins, .ref r_kinds, .int 0, .ref r_field, .ref r_willTeach, .ref r_isBack, .ref r_told, .ref r_bestSeats, .ref r_firstSeats, .int 0, .int 0, .int 0, .int 0, .int 0, .int 0, .int 0, .int 0, .int 0, .ref r_restLearn, .ref r_marksNow, .ref r_row, .int 0, .int 0])), (r_refused, .inl (cI, 7, .inl (upd (fun _ => 0) 2 1)))] H := hP
      have hD : va_D A [(r_now, .inl (cI, 80, .inl (upd (upd (upd (upd (fun _ => 0) 1 2) 3 1) 4 10) 5 1))), (h0, .inr (6, [.ref r_refused, .ref r_now, .ref r_then, .ref r_before, .ref r_asIs, .int 0, .ref r_tape, .int 0, .int 0, .int 0, .ref r_begins, .ref r_kinds, .int 0, .ref r_field, .ref r_willTeach, .ref r_isBack, .ref r_told, .ref r_bestSeats, .ref r_firstSeats, .int 0, .int 0, .int 0, .int 0, .int 0, .int 0, .int 0, .int 0, .int 0, .ref r_restLearn, .ref r_marksNow, .ref r_row, .int 0, .int 0])), (r_refused, .inl (cI, 7, .inl (upd (fun _ => 0) 2 1)))] := hD
      have er11 : (-2) = r11 := Eq.symm hw12
      subst er11
      exact vx_iret (u := ()) hx hb hr hlocks hK hP hD hS [] rfl (by decide) (zz_m_best_2 a c1 c5) dX8_best_15
theorem zz_m_bestSeat_0 (a : Int32) (h0 : (0 : Int32) ≤ a) (h1 : ¬ (0 : Int32) ≤ a) : False := by
  have e0 : (0 : Int32).toInt = 0 := by decide
  try simp only [Int32.lt_iff_toInt_lt, Int32.le_iff_toInt_le, ← Int32.toInt_inj, e0] at h0
  try simp only [Int32.lt_iff_toInt_lt, Int32.le_iff_toInt_le, ← Int32.toInt_inj, e0] at h1
  omega
theorem zz_m_bestSeat_1 (a : Int32) (h0 : (0 : Int32) ≤ a) (h1 : (0 : Int32) ≤ a) : ((-9) : Int32) = f_bestSeat a := by
  have e0 : ((-9) : Int32).toInt = -9 := by decide
  have e1 : ((-4) : Int32).toInt = -4 := by decide
  have e2 : (0 : Int32).toInt = 0 := by decide
  have e3 : (32 : Int32).toInt = 32 := by decide
  unfold f_bestSeat
  (repeat' split) <;> first | rfl | (exfalso; simp only [Int32.lt_iff_toInt_lt, Int32.le_iff_toInt_le, ← Int32.toInt_inj, e0, e1, e2, e3] at * <;> omega)
theorem zz_m_bestSeat_2 (a : Int32) (h0 : ¬ (0 : Int32) ≤ a) : ((-4) : Int32) = f_bestSeat a := by
  have e0 : ((-9) : Int32).toInt = -9 := by decide
  have e1 : ((-4) : Int32).toInt = -4 := by decide
  have e2 : (0 : Int32).toInt = 0 := by decide
  have e3 : (32 : Int32).toInt = 32 := by decide
  unfold f_bestSeat
  (repeat' split) <;> first | rfl | (exfalso; simp only [Int32.lt_iff_toInt_lt, Int32.le_iff_toInt_le, ← Int32.toInt_inj, e0, e1, e2, e3] at * <;> omega)
set_option maxHeartbeats 4000000 in
set_option maxRecDepth 100000 in
theorem m_bestSeat (l : Launch) (dC : Nat → ClassId) (dI : Nat → Nat → Nat) (cI cC cZ : ClassId) (sz : Nat) (h0 r_refused r_now r_then r_before r_asIs r_tape r_begins r_kinds r_field r_willTeach r_isBack r_told r_bestSeats r_firstSeats r_restLearn r_marksNow r_row : Nat) (a : Int32) : Met l yX8_bestSeat wsX8_bestSeat ({ frames := 4, cells := 0, slots := 0, locals := 95 }) (va_Pc [.ref h0, .int a] (vx_B (dC, dI) (vx_T cI cC cZ) sz [(h0, .inr (6, [.ref r_refused, .ref r_now, .ref r_then, .ref r_before, .ref r_asIs, .int 0, .ref r_tape, .int 0, .int 0, .int 0, .ref r_begins, .ref r_kinds, .int 0, .ref r_field, .ref r_willTeach, .ref r_isBack, .ref r_told, .ref r_bestSeats, .ref r_firstSeats, .int 0, .int 0, .int 0, .int 0, .int 0, .int 0, .int 0, .int 0, .int 0, .ref r_restLearn, .ref r_marksNow, .ref r_row, .int 0, .int 0])), (r_refused, .inl (cI, 7, .inl (fun _ => 0))), (r_now, .inl (cI, 80, .inl (upd (upd (upd (upd (fun _ => 0) 1 2) 3 1) 4 10) 5 1))), (r_before, .inl (cI, 80, .inl (fun _ => 0))), (r_told, .inl (cI, 6, .inl (fun _ => 0)))])) (va_Qi (fun (r : Int32) (_ : Unit) => r = f_bestSeat a) (vx_C (dC, dI) (vx_T cI cC cZ) (va_A [(h0, .inr (6, [.ref r_refused, .ref r_now, .ref r_then, .ref r_before, .ref r_asIs, .int 0, .ref r_tape, .int 0, .int 0, .int 0, .ref r_begins, .ref r_kinds, .int 0, .ref r_field, .ref r_willTeach, .ref r_isBack, .ref r_told, .ref r_bestSeats, .ref r_firstSeats, .int 0, .int 0, .int 0, .int 0, .int 0, .int 0, .int 0, .int 0, .int 0, .ref r_restLearn, .ref r_marksNow, .ref r_row, .int 0, .int 0])), (r_refused, .inl (cI, 7, .inl (fun _ => 0))), (r_now, .inl (cI, 80, .inl (upd (upd (upd (upd (fun _ => 0) 1 2) 3 1) 4 10) 5 1))), (r_before, .inl (cI, 80, .inl (fun _ => 0))), (r_told, .inl (cI, 6, .inl (fun _ => 0)))] sz) (fun (u : Unit) => [])) (va_A [(h0, .inr (6, [.ref r_refused, .ref r_now, .ref r_then, .ref r_before, .ref r_asIs, .int 0, .ref r_tape, .int 0, .int 0, .int 0, .ref r_begins, .ref r_kinds, .int 0, .ref r_field, .ref r_willTeach, .ref r_isBack, .ref r_told, .ref r_bestSeats, .ref r_firstSeats, .int 0, .int 0, .int 0, .int 0, .int 0, .int 0, .int 0, .int 0, .int 0, .ref r_restLearn, .ref r_marksNow, .ref r_row, .int 0, .int 0])), (r_refused, .inl (cI, 7, .inl (fun _ => 0))), (r_now, .inl (cI, 80, .inl (upd (upd (upd (upd (fun _ => 0) 1 2) 3 1) 4 10) 5 1))), (r_before, .inl (cI, 80, .inl (fun _ => 0))), (r_told, .inl (cI, 6, .inl (fun _ => 0)))] sz)) 0 0 (va_A [(h0, .inr (6, [.ref r_refused, .ref r_now, .ref r_then, .ref r_before, .ref r_asIs, .int 0, .ref r_tape, .int 0, .int 0, .int 0, .ref r_begins, .ref r_kinds, .int 0, .ref r_field, .ref r_willTeach, .ref r_isBack, .ref r_told, .ref r_bestSeats, .ref r_firstSeats, .int 0, .int 0, .int 0, .int 0, .int 0, .int 0, .int 0, .int 0, .int 0, .ref r_restLearn, .ref r_marksNow, .ref r_row, .int 0, .int 0])), (r_refused, .inl (cI, 7, .inl (fun _ => 0))), (r_now, .inl (cI, 80, .inl (upd (upd (upd (upd (fun _ => 0) 1 2) 3 1) 4 10) 5 1))), (r_before, .inl (cI, 80, .inl (fun _ => 0))), (r_told, .inl (cI, 6, .inl (fun _ => 0)))] sz) := by
  refine Met.ofW (cc := cX8_bestSeat) (maxL := 2) (ret := (some .int)) (by decide) rfl ?_
  intro p e s m args below meth c s₁ B hml hv
  obtain ⟨rfl, hsz, hP, hK, hD0⟩ := hv
  have hx := B.exec
  have hb := B.bytes
  have hr := B.returns
  have hts := atoms_spec (ws := wsX8_bestSeat) B.pre
  have hown : s.vm.findClass RX8 = some m.cls := findClass_of_methodNamed B.named
  have hlocks := B.notSynchronized
  subst hsz
  have hD := hD0.self (sz := s.heap.size)
  generalize hAe : va_A [(h0, .inr (6, [.ref r_refused, .ref r_now, .ref r_then, .ref r_before, .ref r_asIs, .int 0, .ref r_tape, .int 0, .int 0, .int 0, .ref r_begins, .ref r_kinds, .int 0, .ref r_field, .ref r_willTeach, .ref r_isBack, .ref r_told, .ref r_bestSeats, .ref r_firstSeats, .int 0, .int 0, .int 0, .int 0, .int 0, .int 0, .int 0, .int 0, .int 0, .ref r_restLearn, .ref r_marksNow, .ref r_row, .int 0, .int 0])), (r_refused, .inl (cI, 7, .inl (fun _ => 0))), (r_now, .inl (cI, 80, .inl (upd (upd (upd (upd (fun _ => 0) 1 2) 3 1) 4 10) 5 1))), (r_before, .inl (cI, 80, .inl (fun _ => 0))), (r_told, .inl (cI, 6, .inl (fun _ => 0)))] s.heap.size = A at hD ⊢
  have hA : ∀ q : Nat, s.heap.size ≤ q → A q := fun q h => by rw [← hAe]; exact Or.inr h
  have hS : va_S A s.heap s.heap [] := va_S.rf
  have hl := lv_entry ([.ref h0, .int a]) (n := 2) (Nat.le_of_ble_eq_true rfl)
  rw [lg_entry_eq]
  generalize (lg_sl ([.ref h0, .int a]) ++ List.replicate (2 - (lg_sl ([.ref h0, .int a])).length) Slot.unset).toArray = ls at hl ⊢
  have hl : lv_has ls 2 [(0, .ref h0), (1, .int a)] := hl
  have iX8 : ∀ w ∈ u_ws RX8 TX8 33, w ∈ wsX8_bestSeat := by decide +kernel
  refine lv_iload_n hx hb dX8_bestSeat_0 rfl (lv_at hl 1 rfl) ?_
  refine lv_if_ge (tgt := 11) hx hb dX8_bestSeat_1 (by decide) (fun c1 => ?_) (fun c1 => ?_)
  · skip
    refine lv_aload_n hx hb dX8_bestSeat_11 rfl (lv_at hl 0 rfl) ?_
    have hPc := hP.sub (ws' := [(h0, .inr (6, [.ref r_refused, .ref r_now, .ref r_then, .ref r_before, .ref r_asIs, .int 0, .ref r_tape, .int 0, .int 0, .int 0, .ref r_begins, .ref r_kinds, .int 0, .ref r_field, .ref r_willTeach, .ref r_isBack, .ref r_told, .ref r_bestSeats, .ref r_firstSeats, .int 0, .int 0, .int 0, .int 0, .int 0, .int 0, .int 0, .int 0, .int 0, .ref r_restLearn, .ref r_marksNow, .ref r_row, .int 0, .int 0])), (r_now, .inl (cI, 80, .inl (upd (upd (upd (upd (fun _ => 0) 1 2) 3 1) 4 10) 5 1))), (r_before, .inl (cI, 80, .inl (fun _ => 0))), (r_told, .inl (cI, 6, .inl (fun _ => 0)))]) [0, 2, 3, 4] rfl
    have hDc := hD.sub (ws' := [(h0, .inr (6, [.ref r_refused, .ref r_now, .ref r_then, .ref r_before, .ref r_asIs, .int 0, .ref r_tape, .int 0, .int 0, .int 0, .ref r_begins, .ref r_kinds, .int 0, .ref r_field, .ref r_willTeach, .ref r_isBack, .ref r_told, .ref r_bestSeats, .ref r_firstSeats, .int 0, .int 0, .int 0, .int 0, .int 0, .int 0, .int 0, .int 0, .int 0, .ref r_restLearn, .ref r_marksNow, .ref r_row, .int 0, .int 0])), (r_now, .inl (cI, 80, .inl (upd (upd (upd (upd (fun _ => 0) 1 2) 3 1) 4 10) 5 1))), (r_before, .inl (cI, 80, .inl (fun _ => 0))), (r_told, .inl (cI, 6, .inl (fun _ => 0)))]) [0, 2, 3, 4] (by decide) rfl
    refine vx_callv (wc := [(h0, .inr (6, [.ref r_refused, .ref r_now, .ref r_then, .ref r_before, .ref r_asIs, .int 0, .ref r_tape, .int 0, .int 0, .int 0, .ref r_begins, .ref r_kinds, .int 0, .ref r_field, .ref r_willTeach, .ref r_isBack, .ref r_told, .ref r_bestSeats, .ref r_firstSeats, .int 0, .int 0, .int 0, .int 0, .int 0, .int 0, .int 0, .int 0, .int 0, .ref r_restLearn, .ref r_marksNow, .ref r_row, .int 0, .int 0])), (r_now, .inl (cI, 80, .inl (upd (upd (upd (upd (fun _ => 0) 1 2) 3 1) 4 10) 5 1))), (r_before, .inl (cI, 80, .inl (fun _ => 0))), (r_told, .inl (cI, 6, .inl (fun _ => 0)))]) (wr := [(r_refused, .inl (cI, 7, .inl (fun _ => 0)))]) hP hD hS hA [0, 2, 3, 4] [1] rfl rfl (by decide) (by decide) (va_runV (As := []) (rest := []) ⟨hx, hb, hml, hown, hts⟩ (r_allSeatings l dC dI cI cC cZ _ h0 r_refused r_now r_then r_before r_asIs r_tape r_begins r_kinds r_field r_willTeach r_isBack r_told r_bestSeats r_firstSeats r_restLearn r_marksNow r_row 0 0 0 0 0 0 0 0 0 0 0 0 0 0 0 (upd (upd (upd (upd (fun _ => 0) 1 2) 3 1) 4 10) 5 1) (fun _ => 0) (fun _ => 0) rfl rfl) (cwV 0 hts gX8_bestSeat_X8_allSeatings rfl rfl rfl (by decide +kernel) ⟨Nat.le_of_ble_eq_true rfl, Nat.le_of_ble_eq_true rfl⟩) ⟨vx_blind, va_recv hK hPc (ci := 6) (q0 := 0) rfl rfl, vx_pre hK hPc hDc⟩ rfl rfl hl.1 rfl (lv_room (Nat.le_of_ble_eq_true rfl)) dX8_bestSeat_12 ⟨Nat.le_of_ble_eq_true rfl, Nat.le_of_ble_eq_true rfl⟩) (fun u2 H locs hw4 hP hD hS => ?_)
    have hP : va_P (dC, dI) vwCl [(r_refused, .inl (cI, 7, .inl (fun _ => 0))), (h0, .inr (6, [.ref r_refused, .ref r_now, .ref r_then, .ref r_before, .ref r_asIs, .int 0, .ref r_tape, .int 0, .int 0, .int 0, .ref r_begins, .ref r_kinds, .int 0, .ref r_field, .ref r_willTeach, .ref r_isBack, .ref r_told, .ref r_bestSeats, .ref r_firstSeats, .int 0, .int 0, .int 0, .int 1, .int 0, .int 0, .int 0, .int 0, .int 0, .ref r_restLearn, .ref r_marksNow, .ref r_row, .int 0, .int 0])), (r_now, .inl (cI, 80, .inl (va_cpy (va_cpy (upd (upd (upd (upd (fun _ => 0) 1 2) 3 1) 4 10) 5 1) (fun _ => 0) 0 0 80) (upd (upd (upd (upd (fun _ => 0) 1 2) 3 1) 4 10) 5 1) 0 0 80)))] H := hP
    have hD : va_D A [(r_refused, .inl (cI, 7, .inl (fun _ => 0))), (h0, .inr (6, [.ref r_refused, .ref r_now, .ref r_then, .ref r_before, .ref r_asIs, .int 0, .ref r_tape, .int 0, .int 0, .int 0, .ref r_begins, .ref r_kinds, .int 0, .ref r_field, .ref r_willTeach, .ref r_isBack, .ref r_told, .ref r_bestSeats, .ref r_firstSeats, .int 0, .int 0, .int 0, .int 1, .int 0, .int 0, .int 0, .int 0, .int 0, .ref r_restLearn, .ref r_marksNow, .ref r_row, .int 0, .int 0])), (r_now, .inl (cI, 80, .inl (va_cpy (va_cpy (upd (upd (upd (upd (fun _ => 0) 1 2) 3 1) 4 10) 5 1) (fun _ => 0) 0 0 80) (upd (upd (upd (upd (fun _ => 0) 1 2) 3 1) 4 10) 5 1) 0 0 80)))] := hD
    refine lv_iload_n hx hb dX8_bestSeat_15 rfl (lv_at hl 1 rfl) ?_
    refine lv_aload_n hx hb dX8_bestSeat_16 rfl (lv_at hl 0 rfl) ?_
    refine va_get (D := (dC, dI)) (ci := 6) (v := .ref r_now) (C := RX8) (T := TX8) (N := 33) hx hb hts iX8 hown hK hP 1 rfl rfl 1 (by decide) (hts (.fieldLink RX8 13 "NeighboursMarkModel" "now" "[I") (by decide +kernel)) (fun _ h9 => h9) rfl dX8_bestSeat_17 ?_
    refine lv_iconst (v := 0) hx hb dX8_bestSeat_20 (by decide) ?_
    refine va_iald hx hb hK hP 2 0 rfl rfl (by unfold vp_in; decide) dX8_bestSeat_21 ?_
    refine lv_topi (fun x5 ex5 => ?_)
    have ex5 : 0 = x5 := (ex5.trans rfl).symm
    subst ex5
    refine lv_icmp_ge (tgt := 34) hx hb dX8_bestSeat_22 (by decide) (fun c6 => ?_) (fun c6 => (zz_m_bestSeat_0 a c1 c6).elim)
    refine lv_bipush (v := (-9)) hx hb dX8_bestSeat_34 (by decide) ?_
    exact vx_iret (u := ()) hx hb hr hlocks hK hP hD hS [] rfl (by decide) (zz_m_bestSeat_1 a c1 c6) dX8_bestSeat_36
  · skip
    refine lv_aload_n hx hb dX8_bestSeat_4 rfl (lv_at hl 0 rfl) ?_
    refine lv_bipush (v := (-4)) hx hb dX8_bestSeat_5 (by decide) ?_
    have hPc := hP.sub (ws' := [(h0, .inr (6, [.ref r_refused, .ref r_now, .ref r_then, .ref r_before, .ref r_asIs, .int 0, .ref r_tape, .int 0, .int 0, .int 0, .ref r_begins, .ref r_kinds, .int 0, .ref r_field, .ref r_willTeach, .ref r_isBack, .ref r_told, .ref r_bestSeats, .ref r_firstSeats, .int 0, .int 0, .int 0, .int 0, .int 0, .int 0, .int 0, .int 0, .int 0, .ref r_restLearn, .ref r_marksNow, .ref r_row, .int 0, .int 0])), (r_refused, .inl (cI, 7, .inl (fun _ => 0)))]) [0, 1] rfl
    have hDc := hD.sub (ws' := [(h0, .inr (6, [.ref r_refused, .ref r_now, .ref r_then, .ref r_before, .ref r_asIs, .int 0, .ref r_tape, .int 0, .int 0, .int 0, .ref r_begins, .ref r_kinds, .int 0, .ref r_field, .ref r_willTeach, .ref r_isBack, .ref r_told, .ref r_bestSeats, .ref r_firstSeats, .int 0, .int 0, .int 0, .int 0, .int 0, .int 0, .int 0, .int 0, .int 0, .ref r_restLearn, .ref r_marksNow, .ref r_row, .int 0, .int 0])), (r_refused, .inl (cI, 7, .inl (fun _ => 0)))]) [0, 1] (by decide) rfl
    refine vx_calli (wc := [(h0, .inr (6, [.ref r_refused, .ref r_now, .ref r_then, .ref r_before, .ref r_asIs, .int 0, .ref r_tape, .int 0, .int 0, .int 0, .ref r_begins, .ref r_kinds, .int 0, .ref r_field, .ref r_willTeach, .ref r_isBack, .ref r_told, .ref r_bestSeats, .ref r_firstSeats, .int 0, .int 0, .int 0, .int 0, .int 0, .int 0, .int 0, .int 0, .int 0, .ref r_restLearn, .ref r_marksNow, .ref r_row, .int 0, .int 0])), (r_refused, .inl (cI, 7, .inl (fun _ => 0)))]) (wr := [(r_now, .inl (cI, 80, .inl (upd (upd (upd (upd (fun _ => 0) 1 2) 3 1) 4 10) 5 1))), (r_before, .inl (cI, 80, .inl (fun _ => 0))), (r_told, .inl (cI, 6, .inl (fun _ => 0)))]) hP hD hS hA [0, 1] [2, 3, 4] rfl rfl (by decide) (by decide) (va_runV (As := [.int (-4)]) (rest := []) ⟨hx, hb, hml, hown, hts⟩ (r_no4 l dC dI cI cC cZ _ h0 r_refused r_now r_then r_before r_asIs r_tape r_begins r_kinds r_field r_willTeach r_isBack r_told r_bestSeats r_firstSeats r_restLearn r_marksNow r_row 0 0 0 0 0 0 0 0 0 0 0 0 0 0 0 0 0 (fun _ => 0) rfl) (cwV 1 hts gX8_bestSeat_X8_no rfl rfl rfl (by decide +kernel) ⟨Nat.le_of_ble_eq_true rfl, Nat.le_of_ble_eq_true rfl⟩) ⟨vx_blind, va_recv hK hPc (ci := 6) (q0 := 0) rfl rfl, vx_pre hK hPc hDc⟩ rfl rfl hl.1 rfl (lv_room (Nat.le_of_ble_eq_true rfl)) dX8_bestSeat_7 ⟨Nat.le_of_ble_eq_true rfl, Nat.le_of_ble_eq_true rfl⟩) (fun r8 u7 H locs hw9 hP hD hS => ?_)
    have hP : va_P (dC, dI) vwCl [(r_now, .inl (cI, 80, .inl (upd (upd (upd (upd (fun _ => 0) 1 2) 3 1) 4 10) 5 1))), (r_before, .inl (cI, 80, .inl (fun _ => 0))), (r_told, .inl (cI, 6, .inl (fun _ => 0))), (h0, .inr (6, [.ref r_refused, .ref r_now, .ref r_then, .ref r_before, .ref r_asIs, .int 0, .ref r_tape, .int 0, .int 0, .int 0, .ref r_begins, .ref r_kinds, .int 0, .ref r_field, .ref r_willTeach, .ref r_isBack, .ref r_told, .ref r_bestSeats, .ref r_firstSeats, .int 0, .int 0, .int 0, .int 0, .int 0, .int 0, .int 0, .int 0, .int 0, .ref r_restLearn, .ref r_marksNow, .ref r_row, .int 0, .int 0])), (r_refused, .inl (cI, 7, .inl (upd (fun _ => 0) 4 1)))] H := hP
    have hD : va_D A [(r_now, .inl (cI, 80, .inl (upd (upd (upd (upd (fun _ => 0) 1 2) 3 1) 4 10) 5 1))), (r_before, .inl (cI, 80, .inl (fun _ => 0))), (r_told, .inl (cI, 6, .inl (fun _ => 0))), (h0, .inr (6, [.ref r_refused, .ref r_now, .ref r_then, .ref r_before, .ref r_asIs, .int 0, .ref r_tape, .int 0, .int 0, .int 0, .ref r_begins, .ref r_kinds, .int 0, .ref r_field, .ref r_willTeach, .ref r_isBack, .ref r_told, .ref r_bestSeats, .ref r_firstSeats, .int 0, .int 0, .int 0, .int 0, .int 0, .int 0, .int 0, .int 0, .int 0, .ref r_restLearn, .ref r_marksNow, .ref r_row, .int 0, .int 0])), (r_refused, .inl (cI, 7, .inl (upd (fun _ => 0) 4 1)))] := hD
    have er8 : (-4) = r8 := Eq.symm hw9
    subst er8
    exact vx_iret (u := ()) hx hb hr hlocks hK hP hD hS [] rfl (by decide) (zz_m_bestSeat_2 a c1) dX8_bestSeat_10
set_option maxHeartbeats 4000000 in
set_option maxRecDepth 100000 in
theorem m_sumLeast (l : Launch) (dC : Nat → ClassId) (dI : Nat → Nat → Nat) (cI cC cZ : ClassId) (sz : Nat) (h0 r_refused r_now r_then r_before r_asIs r_tape r_begins r_kinds r_field r_willTeach r_isBack r_told r_bestSeats r_firstSeats r_restLearn r_marksNow r_row : Nat) : Met l yX8_sumLeast wsX8_sumLeast ({ frames := 1, cells := 0, slots := 0, locals := 21 }) (va_Pc [.ref h0] (vx_B (dC, dI) (vx_T cI cC cZ) sz [(h0, .inr (6, [.ref r_refused, .ref r_now, .ref r_then, .ref r_before, .ref r_asIs, .int 0, .ref r_tape, .int 0, .int 0, .int 0, .ref r_begins, .ref r_kinds, .int 0, .ref r_field, .ref r_willTeach, .ref r_isBack, .ref r_told, .ref r_bestSeats, .ref r_firstSeats, .int 0, .int 0, .int 0, .int 0, .int 0, .int 0, .int 0, .int 0, .int 0, .ref r_restLearn, .ref r_marksNow, .ref r_row, .int 0, .int 0])), (r_refused, .inl (cI, 7, .inl (fun _ => 0))), (r_now, .inl (cI, 80, .inl (upd (upd (upd (upd (fun _ => 0) 1 2) 3 1) 4 10) 5 1)))])) (va_Qi (fun (r : Int32) (_ : Unit) => r = (-3)) (vx_C (dC, dI) (vx_T cI cC cZ) (va_A [(h0, .inr (6, [.ref r_refused, .ref r_now, .ref r_then, .ref r_before, .ref r_asIs, .int 0, .ref r_tape, .int 0, .int 0, .int 0, .ref r_begins, .ref r_kinds, .int 0, .ref r_field, .ref r_willTeach, .ref r_isBack, .ref r_told, .ref r_bestSeats, .ref r_firstSeats, .int 0, .int 0, .int 0, .int 0, .int 0, .int 0, .int 0, .int 0, .int 0, .ref r_restLearn, .ref r_marksNow, .ref r_row, .int 0, .int 0])), (r_refused, .inl (cI, 7, .inl (fun _ => 0))), (r_now, .inl (cI, 80, .inl (upd (upd (upd (upd (fun _ => 0) 1 2) 3 1) 4 10) 5 1)))] sz) (fun (u : Unit) => [])) (va_A [(h0, .inr (6, [.ref r_refused, .ref r_now, .ref r_then, .ref r_before, .ref r_asIs, .int 0, .ref r_tape, .int 0, .int 0, .int 0, .ref r_begins, .ref r_kinds, .int 0, .ref r_field, .ref r_willTeach, .ref r_isBack, .ref r_told, .ref r_bestSeats, .ref r_firstSeats, .int 0, .int 0, .int 0, .int 0, .int 0, .int 0, .int 0, .int 0, .int 0, .ref r_restLearn, .ref r_marksNow, .ref r_row, .int 0, .int 0])), (r_refused, .inl (cI, 7, .inl (fun _ => 0))), (r_now, .inl (cI, 80, .inl (upd (upd (upd (upd (fun _ => 0) 1 2) 3 1) 4 10) 5 1)))] sz)) 0 0 (va_A [(h0, .inr (6, [.ref r_refused, .ref r_now, .ref r_then, .ref r_before, .ref r_asIs, .int 0, .ref r_tape, .int 0, .int 0, .int 0, .ref r_begins, .ref r_kinds, .int 0, .ref r_field, .ref r_willTeach, .ref r_isBack, .ref r_told, .ref r_bestSeats, .ref r_firstSeats, .int 0, .int 0, .int 0, .int 0, .int 0, .int 0, .int 0, .int 0, .int 0, .ref r_restLearn, .ref r_marksNow, .ref r_row, .int 0, .int 0])), (r_refused, .inl (cI, 7, .inl (fun _ => 0))), (r_now, .inl (cI, 80, .inl (upd (upd (upd (upd (fun _ => 0) 1 2) 3 1) 4 10) 5 1)))] sz) := by
  refine Met.ofW (cc := cX8_sumLeast) (maxL := 1) (ret := (some .int)) (by decide) rfl ?_
  intro p e s m args below meth c s₁ B hml hv
  obtain ⟨rfl, hsz, hP, hK, hD0⟩ := hv
  have hx := B.exec
  have hb := B.bytes
  have hr := B.returns
  have hts := atoms_spec (ws := wsX8_sumLeast) B.pre
  have hown : s.vm.findClass RX8 = some m.cls := findClass_of_methodNamed B.named
  have hlocks := B.notSynchronized
  subst hsz
  have hD := hD0.self (sz := s.heap.size)
  generalize hAe : va_A [(h0, .inr (6, [.ref r_refused, .ref r_now, .ref r_then, .ref r_before, .ref r_asIs, .int 0, .ref r_tape, .int 0, .int 0, .int 0, .ref r_begins, .ref r_kinds, .int 0, .ref r_field, .ref r_willTeach, .ref r_isBack, .ref r_told, .ref r_bestSeats, .ref r_firstSeats, .int 0, .int 0, .int 0, .int 0, .int 0, .int 0, .int 0, .int 0, .int 0, .ref r_restLearn, .ref r_marksNow, .ref r_row, .int 0, .int 0])), (r_refused, .inl (cI, 7, .inl (fun _ => 0))), (r_now, .inl (cI, 80, .inl (upd (upd (upd (upd (fun _ => 0) 1 2) 3 1) 4 10) 5 1)))] s.heap.size = A at hD ⊢
  have hA : ∀ q : Nat, s.heap.size ≤ q → A q := fun q h => by rw [← hAe]; exact Or.inr h
  have hS : va_S A s.heap s.heap [] := va_S.rf
  have hl := lv_entry ([.ref h0]) (n := 1) (Nat.le_of_ble_eq_true rfl)
  rw [lg_entry_eq]
  generalize (lg_sl ([.ref h0]) ++ List.replicate (1 - (lg_sl ([.ref h0])).length) Slot.unset).toArray = ls at hl ⊢
  have hl : lv_has ls 1 [(0, .ref h0)] := hl
  have iX8 : ∀ w ∈ u_ws RX8 TX8 33, w ∈ wsX8_sumLeast := by decide +kernel
  refine lv_aload_n hx hb dX8_sumLeast_0 rfl (lv_at hl 0 rfl) ?_
  refine va_get (D := (dC, dI)) (ci := 6) (v := .ref r_now) (C := RX8) (T := TX8) (N := 33) hx hb hts iX8 hown hK hP 0 rfl rfl 1 (by decide) (hts (.fieldLink RX8 13 "NeighboursMarkModel" "now" "[I") (by decide +kernel)) (fun _ h9 => h9) rfl dX8_sumLeast_1 ?_
  refine lv_iconst (v := 0) hx hb dX8_sumLeast_4 (by decide) ?_
  refine va_iald hx hb hK hP 2 0 rfl rfl (by unfold vp_in; decide) dX8_sumLeast_5 ?_
  refine lv_topi (fun x1 ex1 => ?_)
  have ex1 : 0 = x1 := (ex1.trans rfl).symm
  subst ex1
  refine lv_if_ne (tgt := 16) hx hb dX8_sumLeast_6 (by decide) (fun c0 => absurd (by decide) c0) (fun _ => ?_)
  refine lv_aload_n hx hb dX8_sumLeast_9 rfl (lv_at hl 0 rfl) ?_
  refine lv_bipush (v := (-3)) hx hb dX8_sumLeast_10 (by decide) ?_
  have hPc := hP.sub (ws' := [(h0, .inr (6, [.ref r_refused, .ref r_now, .ref r_then, .ref r_before, .ref r_asIs, .int 0, .ref r_tape, .int 0, .int 0, .int 0, .ref r_begins, .ref r_kinds, .int 0, .ref r_field, .ref r_willTeach, .ref r_isBack, .ref r_told, .ref r_bestSeats, .ref r_firstSeats, .int 0, .int 0, .int 0, .int 0, .int 0, .int 0, .int 0, .int 0, .int 0, .ref r_restLearn, .ref r_marksNow, .ref r_row, .int 0, .int 0])), (r_refused, .inl (cI, 7, .inl (fun _ => 0)))]) [0, 1] rfl
  have hDc := hD.sub (ws' := [(h0, .inr (6, [.ref r_refused, .ref r_now, .ref r_then, .ref r_before, .ref r_asIs, .int 0, .ref r_tape, .int 0, .int 0, .int 0, .ref r_begins, .ref r_kinds, .int 0, .ref r_field, .ref r_willTeach, .ref r_isBack, .ref r_told, .ref r_bestSeats, .ref r_firstSeats, .int 0, .int 0, .int 0, .int 0, .int 0, .int 0, .int 0, .int 0, .int 0, .ref r_restLearn, .ref r_marksNow, .ref r_row, .int 0, .int 0])), (r_refused, .inl (cI, 7, .inl (fun _ => 0)))]) [0, 1] (by decide) rfl
  refine vx_calli (wc := [(h0, .inr (6, [.ref r_refused, .ref r_now, .ref r_then, .ref r_before, .ref r_asIs, .int 0, .ref r_tape, .int 0, .int 0, .int 0, .ref r_begins, .ref r_kinds, .int 0, .ref r_field, .ref r_willTeach, .ref r_isBack, .ref r_told, .ref r_bestSeats, .ref r_firstSeats, .int 0, .int 0, .int 0, .int 0, .int 0, .int 0, .int 0, .int 0, .int 0, .ref r_restLearn, .ref r_marksNow, .ref r_row, .int 0, .int 0])), (r_refused, .inl (cI, 7, .inl (fun _ => 0)))]) (wr := [(r_now, .inl (cI, 80, .inl (upd (upd (upd (upd (fun _ => 0) 1 2) 3 1) 4 10) 5 1)))]) hP hD hS hA [0, 1] [2] rfl rfl (by decide) (by decide) (va_runV (As := [.int (-3)]) (rest := []) ⟨hx, hb, hml, hown, hts⟩ (r_no3 l dC dI cI cC cZ _ h0 r_refused r_now r_then r_before r_asIs r_tape r_begins r_kinds r_field r_willTeach r_isBack r_told r_bestSeats r_firstSeats r_restLearn r_marksNow r_row 0 0 0 0 0 0 0 0 0 0 0 0 0 0 0 0 0 (fun _ => 0) rfl) (cwV 1 hts gX8_sumLeast_X8_no rfl rfl rfl (by decide +kernel) ⟨Nat.le_of_ble_eq_true rfl, Nat.le_of_ble_eq_true rfl⟩) ⟨vx_blind, va_recv hK hPc (ci := 6) (q0 := 0) rfl rfl, vx_pre hK hPc hDc⟩ rfl rfl hl.1 rfl (lv_room (Nat.le_of_ble_eq_true rfl)) dX8_sumLeast_12 ⟨Nat.le_of_ble_eq_true rfl, Nat.le_of_ble_eq_true rfl⟩) (fun r3 u2 H locs hw4 hP hD hS => ?_)
  have hP : va_P (dC, dI) vwCl [(r_now, .inl (cI, 80, .inl (upd (upd (upd (upd (fun _ => 0) 1 2) 3 1) 4 10) 5 1))), (h0, .inr (6, [.ref r_refused, .ref r_now, .ref r_then, .ref r_before, .ref r_asIs, .int 0, .ref r_tape, .int 0, .int 0, .int 0, .ref r_begins, .ref r_kinds, .int 0, .ref r_field, .ref r_willTeach, .ref r_isBack, .ref r_told, .ref r_bestSeats, .ref r_firstSeats, .int 0, .int 0, .int 0, .int 0, .int 0, .int 0, .int 0, .int 0, .int 0, .ref r_restLearn, .ref r_marksNow, .ref r_row, .int 0, .int 0])), (r_refused, .inl (cI, 7, .inl (upd (fun _ => 0) 3 1)))] H := hP
  have hD : va_D A [(r_now, .inl (cI, 80, .inl (upd (upd (upd (upd (fun _ => 0) 1 2) 3 1) 4 10) 5 1))), (h0, .inr (6, [.ref r_refused, .ref r_now, .ref r_then, .ref r_before, .ref r_asIs, .int 0, .ref r_tape, .int 0, .int 0, .int 0, .ref r_begins, .ref r_kinds, .int 0, .ref r_field, .ref r_willTeach, .ref r_isBack, .ref r_told, .ref r_bestSeats, .ref r_firstSeats, .int 0, .int 0, .int 0, .int 0, .int 0, .int 0, .int 0, .int 0, .int 0, .ref r_restLearn, .ref r_marksNow, .ref r_row, .int 0, .int 0])), (r_refused, .inl (cI, 7, .inl (upd (fun _ => 0) 3 1)))] := hD
  have er3 : (-3) = r3 := Eq.symm hw4
  subst er3
  exact vx_iret (u := ()) hx hb hr hlocks hK hP hD hS [] rfl (by decide) rfl dX8_sumLeast_15
theorem zz_m_rests_0 (a : Int32) (h0 : a < (0 : Int32)) : ((-2) : Int32) = f_rests a := by
  have e0 : ((-2) : Int32).toInt = -2 := by decide
  have e1 : (0 : Int32).toInt = 0 := by decide
  have e2 : (1 : Int32).toInt = 1 := by decide
  have e3 : (32 : Int32).toInt = 32 := by decide
  unfold f_rests
  (repeat' split) <;> first | rfl | (exfalso; simp only [Int32.lt_iff_toInt_lt, Int32.le_iff_toInt_le, ← Int32.toInt_inj, e0, e1, e2, e3] at * <;> omega)
theorem zz_m_rests_1 (a : Int32) (h0 : ¬ a < (0 : Int32)) (h1 : a ≤ (1 : Int32)) (h2 : ¬ a = (0 : Int32)) : (0 : Int32) = f_rests a := by
  have e0 : ((-2) : Int32).toInt = -2 := by decide
  have e1 : (0 : Int32).toInt = 0 := by decide
  have e2 : (1 : Int32).toInt = 1 := by decide
  have e3 : (32 : Int32).toInt = 32 := by decide
  unfold f_rests
  (repeat' split) <;> first | rfl | (exfalso; simp only [Int32.lt_iff_toInt_lt, Int32.le_iff_toInt_le, ← Int32.toInt_inj, e0, e1, e2, e3] at * <;> omega)
theorem zz_m_rests_2 (a : Int32) (h0 : ¬ a < (0 : Int32)) (h1 : a ≤ (1 : Int32)) (h2 : a = (0 : Int32)) : (1 : Int32) = f_rests a := by
  have e0 : ((-2) : Int32).toInt = -2 := by decide
  have e1 : (0 : Int32).toInt = 0 := by decide
  have e2 : (1 : Int32).toInt = 1 := by decide
  have e3 : (32 : Int32).toInt = 32 := by decide
  unfold f_rests
  (repeat' split) <;> first | rfl | (exfalso; simp only [Int32.lt_iff_toInt_lt, Int32.le_iff_toInt_le, ← Int32.toInt_inj, e0, e1, e2, e3] at * <;> omega)
theorem zz_m_rests_3 (a : Int32) (h0 : ¬ a < (0 : Int32)) (h1 : ¬ a ≤ (1 : Int32)) : ((-2) : Int32) = f_rests a := by
  have e0 : ((-2) : Int32).toInt = -2 := by decide
  have e1 : (0 : Int32).toInt = 0 := by decide
  have e2 : (1 : Int32).toInt = 1 := by decide
  have e3 : (32 : Int32).toInt = 32 := by decide
  unfold f_rests
  (repeat' split) <;> first | rfl | (exfalso; simp only [Int32.lt_iff_toInt_lt, Int32.le_iff_toInt_le, ← Int32.toInt_inj, e0, e1, e2, e3] at * <;> omega)
set_option maxHeartbeats 4000000 in
set_option maxRecDepth 100000 in
theorem m_rests (l : Launch) (dC : Nat → ClassId) (dI : Nat → Nat → Nat) (cI cC cZ : ClassId) (sz : Nat) (h0 r_refused r_now r_then r_before r_asIs r_tape r_begins r_kinds r_field r_willTeach r_isBack r_told r_bestSeats r_firstSeats r_restLearn r_marksNow r_row : Nat) (a : Int32) : Met l yX8_rests wsX8_rests ({ frames := 2, cells := 0, slots := 0, locals := 51 }) (va_Pc [.ref h0, .int a] (vx_B (dC, dI) (vx_T cI cC cZ) sz [(h0, .inr (6, [.ref r_refused, .ref r_now, .ref r_then, .ref r_before, .ref r_asIs, .int 0, .ref r_tape, .int 0, .int 0, .int 0, .ref r_begins, .ref r_kinds, .int 0, .ref r_field, .ref r_willTeach, .ref r_isBack, .ref r_told, .ref r_bestSeats, .ref r_firstSeats, .int 0, .int 0, .int 0, .int 0, .int 0, .int 0, .int 0, .int 0, .int 0, .ref r_restLearn, .ref r_marksNow, .ref r_row, .int 0, .int 0])), (r_refused, .inl (cI, 7, .inl (fun _ => 0))), (r_now, .inl (cI, 80, .inl (upd (upd (upd (upd (fun _ => 0) 1 2) 3 1) 4 10) 5 1))), (r_before, .inl (cI, 80, .inl (fun _ => 0)))])) (va_Qi (fun (r : Int32) (_ : Unit) => r = f_rests a) (vx_C (dC, dI) (vx_T cI cC cZ) (va_A [(h0, .inr (6, [.ref r_refused, .ref r_now, .ref r_then, .ref r_before, .ref r_asIs, .int 0, .ref r_tape, .int 0, .int 0, .int 0, .ref r_begins, .ref r_kinds, .int 0, .ref r_field, .ref r_willTeach, .ref r_isBack, .ref r_told, .ref r_bestSeats, .ref r_firstSeats, .int 0, .int 0, .int 0, .int 0, .int 0, .int 0, .int 0, .int 0, .int 0, .ref r_restLearn, .ref r_marksNow, .ref r_row, .int 0, .int 0])), (r_refused, .inl (cI, 7, .inl (fun _ => 0))), (r_now, .inl (cI, 80, .inl (upd (upd (upd (upd (fun _ => 0) 1 2) 3 1) 4 10) 5 1))), (r_before, .inl (cI, 80, .inl (fun _ => 0)))] sz) (fun (u : Unit) => [])) (va_A [(h0, .inr (6, [.ref r_refused, .ref r_now, .ref r_then, .ref r_before, .ref r_asIs, .int 0, .ref r_tape, .int 0, .int 0, .int 0, .ref r_begins, .ref r_kinds, .int 0, .ref r_field, .ref r_willTeach, .ref r_isBack, .ref r_told, .ref r_bestSeats, .ref r_firstSeats, .int 0, .int 0, .int 0, .int 0, .int 0, .int 0, .int 0, .int 0, .int 0, .ref r_restLearn, .ref r_marksNow, .ref r_row, .int 0, .int 0])), (r_refused, .inl (cI, 7, .inl (fun _ => 0))), (r_now, .inl (cI, 80, .inl (upd (upd (upd (upd (fun _ => 0) 1 2) 3 1) 4 10) 5 1))), (r_before, .inl (cI, 80, .inl (fun _ => 0)))] sz)) 0 0 (va_A [(h0, .inr (6, [.ref r_refused, .ref r_now, .ref r_then, .ref r_before, .ref r_asIs, .int 0, .ref r_tape, .int 0, .int 0, .int 0, .ref r_begins, .ref r_kinds, .int 0, .ref r_field, .ref r_willTeach, .ref r_isBack, .ref r_told, .ref r_bestSeats, .ref r_firstSeats, .int 0, .int 0, .int 0, .int 0, .int 0, .int 0, .int 0, .int 0, .int 0, .ref r_restLearn, .ref r_marksNow, .ref r_row, .int 0, .int 0])), (r_refused, .inl (cI, 7, .inl (fun _ => 0))), (r_now, .inl (cI, 80, .inl (upd (upd (upd (upd (fun _ => 0) 1 2) 3 1) 4 10) 5 1))), (r_before, .inl (cI, 80, .inl (fun _ => 0)))] sz) := by
  refine Met.ofW (cc := cX8_rests) (maxL := 2) (ret := (some .int)) (by decide) rfl ?_
  intro p e s m args below meth c s₁ B hml hv
  obtain ⟨rfl, hsz, hP, hK, hD0⟩ := hv
  have hx := B.exec
  have hb := B.bytes
  have hr := B.returns
  have hts := atoms_spec (ws := wsX8_rests) B.pre
  have hown : s.vm.findClass RX8 = some m.cls := findClass_of_methodNamed B.named
  have hlocks := B.notSynchronized
  subst hsz
  have hD := hD0.self (sz := s.heap.size)
  generalize hAe : va_A [(h0, .inr (6, [.ref r_refused, .ref r_now, .ref r_then, .ref r_before, .ref r_asIs, .int 0, .ref r_tape, .int 0, .int 0, .int 0, .ref r_begins, .ref r_kinds, .int 0, .ref r_field, .ref r_willTeach, .ref r_isBack, .ref r_told, .ref r_bestSeats, .ref r_firstSeats, .int 0, .int 0, .int 0, .int 0, .int 0, .int 0, .int 0, .int 0, .int 0, .ref r_restLearn, .ref r_marksNow, .ref r_row, .int 0, .int 0])), (r_refused, .inl (cI, 7, .inl (fun _ => 0))), (r_now, .inl (cI, 80, .inl (upd (upd (upd (upd (fun _ => 0) 1 2) 3 1) 4 10) 5 1))), (r_before, .inl (cI, 80, .inl (fun _ => 0)))] s.heap.size = A at hD ⊢
  have hA : ∀ q : Nat, s.heap.size ≤ q → A q := fun q h => by rw [← hAe]; exact Or.inr h
  have hS : va_S A s.heap s.heap [] := va_S.rf
  have hl := lv_entry ([.ref h0, .int a]) (n := 2) (Nat.le_of_ble_eq_true rfl)
  rw [lg_entry_eq]
  generalize (lg_sl ([.ref h0, .int a]) ++ List.replicate (2 - (lg_sl ([.ref h0, .int a])).length) Slot.unset).toArray = ls at hl ⊢
  have hl : lv_has ls 2 [(0, .ref h0), (1, .int a)] := hl
  have iX8 : ∀ w ∈ u_ws RX8 TX8 33, w ∈ wsX8_rests := by decide +kernel
  refine lv_iload_n hx hb dX8_rests_0 rfl (lv_at hl 1 rfl) ?_
  refine lv_if_lt (tgt := 9) hx hb dX8_rests_1 (by decide) (fun c1 => ?_) (fun c1 => ?_)
  · skip
    refine lv_aload_n hx hb dX8_rests_9 rfl (lv_at hl 0 rfl) ?_
    refine lv_bipush (v := (-2)) hx hb dX8_rests_10 (by decide) ?_
    have hPc := hP.sub (ws' := [(h0, .inr (6, [.ref r_refused, .ref r_now, .ref r_then, .ref r_before, .ref r_asIs, .int 0, .ref r_tape, .int 0, .int 0, .int 0, .ref r_begins, .ref r_kinds, .int 0, .ref r_field, .ref r_willTeach, .ref r_isBack, .ref r_told, .ref r_bestSeats, .ref r_firstSeats, .int 0, .int 0, .int 0, .int 0, .int 0, .int 0, .int 0, .int 0, .int 0, .ref r_restLearn, .ref r_marksNow, .ref r_row, .int 0, .int 0])), (r_refused, .inl (cI, 7, .inl (fun _ => 0)))]) [0, 1] rfl
    have hDc := hD.sub (ws' := [(h0, .inr (6, [.ref r_refused, .ref r_now, .ref r_then, .ref r_before, .ref r_asIs, .int 0, .ref r_tape, .int 0, .int 0, .int 0, .ref r_begins, .ref r_kinds, .int 0, .ref r_field, .ref r_willTeach, .ref r_isBack, .ref r_told, .ref r_bestSeats, .ref r_firstSeats, .int 0, .int 0, .int 0, .int 0, .int 0, .int 0, .int 0, .int 0, .int 0, .ref r_restLearn, .ref r_marksNow, .ref r_row, .int 0, .int 0])), (r_refused, .inl (cI, 7, .inl (fun _ => 0)))]) [0, 1] (by decide) rfl
    refine vx_calli (wc := [(h0, .inr (6, [.ref r_refused, .ref r_now, .ref r_then, .ref r_before, .ref r_asIs, .int 0, .ref r_tape, .int 0, .int 0, .int 0, .ref r_begins, .ref r_kinds, .int 0, .ref r_field, .ref r_willTeach, .ref r_isBack, .ref r_told, .ref r_bestSeats, .ref r_firstSeats, .int 0, .int 0, .int 0, .int 0, .int 0, .int 0, .int 0, .int 0, .int 0, .ref r_restLearn, .ref r_marksNow, .ref r_row, .int 0, .int 0])), (r_refused, .inl (cI, 7, .inl (fun _ => 0)))]) (wr := [(r_now, .inl (cI, 80, .inl (upd (upd (upd (upd (fun _ => 0) 1 2) 3 1) 4 10) 5 1))), (r_before, .inl (cI, 80, .inl (fun _ => 0)))]) hP hD hS hA [0, 1] [2, 3] rfl rfl (by decide) (by decide) (va_runV (As := [.int (-2)]) (rest := []) ⟨hx, hb, hml, hown, hts⟩ (r_no2 l dC dI cI cC cZ _ h0 r_refused r_now r_then r_before r_asIs r_tape r_begins r_kinds r_field r_willTeach r_isBack r_told r_bestSeats r_firstSeats r_restLearn r_marksNow r_row 0 0 0 0 0 0 0 0 0 0 0 0 0 0 0 0 0 (fun _ => 0) rfl) (cwV 1 hts gX8_rests_X8_no rfl rfl rfl (by decide +kernel) ⟨Nat.le_of_ble_eq_true rfl, Nat.le_of_ble_eq_true rfl⟩) ⟨vx_blind, va_recv hK hPc (ci := 6) (q0 := 0) rfl rfl, vx_pre hK hPc hDc⟩ rfl rfl hl.1 rfl (lv_room (Nat.le_of_ble_eq_true rfl)) dX8_rests_12 ⟨Nat.le_of_ble_eq_true rfl, Nat.le_of_ble_eq_true rfl⟩) (fun r3 u2 H locs hw4 hP hD hS => ?_)
    have hP : va_P (dC, dI) vwCl [(r_now, .inl (cI, 80, .inl (upd (upd (upd (upd (fun _ => 0) 1 2) 3 1) 4 10) 5 1))), (r_before, .inl (cI, 80, .inl (fun _ => 0))), (h0, .inr (6, [.ref r_refused, .ref r_now, .ref r_then, .ref r_before, .ref r_asIs, .int 0, .ref r_tape, .int 0, .int 0, .int 0, .ref r_begins, .ref r_kinds, .int 0, .ref r_field, .ref r_willTeach, .ref r_isBack, .ref r_told, .ref r_bestSeats, .ref r_firstSeats, .int 0, .int 0, .int 0, .int 0, .int 0, .int 0, .int 0, .int 0, .int 0, .ref r_restLearn, .ref r_marksNow, .ref r_row, .int 0, .int 0])), (r_refused, .inl (cI, 7, .inl (upd (fun _ => 0) 2 1)))] H := hP
    have hD : va_D A [(r_now, .inl (cI, 80, .inl (upd (upd (upd (upd (fun _ => 0) 1 2) 3 1) 4 10) 5 1))), (r_before, .inl (cI, 80, .inl (fun _ => 0))), (h0, .inr (6, [.ref r_refused, .ref r_now, .ref r_then, .ref r_before, .ref r_asIs, .int 0, .ref r_tape, .int 0, .int 0, .int 0, .ref r_begins, .ref r_kinds, .int 0, .ref r_field, .ref r_willTeach, .ref r_isBack, .ref r_told, .ref r_bestSeats, .ref r_firstSeats, .int 0, .int 0, .int 0, .int 0, .int 0, .int 0, .int 0, .int 0, .int 0, .ref r_restLearn, .ref r_marksNow, .ref r_row, .int 0, .int 0])), (r_refused, .inl (cI, 7, .inl (upd (fun _ => 0) 2 1)))] := hD
    have er3 : (-2) = r3 := Eq.symm hw4
    subst er3
    exact vx_iret (u := ()) hx hb hr hlocks hK hP hD hS [] rfl (by decide) (zz_m_rests_0 a c1) dX8_rests_15
  · skip
    refine lv_iload_n hx hb dX8_rests_4 rfl (lv_at hl 1 rfl) ?_
    refine lv_iconst (v := 1) hx hb dX8_rests_5 (by decide) ?_
    refine lv_icmp_le (tgt := 16) hx hb dX8_rests_6 (by decide) (fun c5 => ?_) (fun c5 => ?_)
    · skip
      refine lv_aload_n hx hb dX8_rests_16 rfl (lv_at hl 0 rfl) ?_
      refine lv_aload_n hx hb dX8_rests_17 rfl (lv_at hl 0 rfl) ?_
      refine va_get (D := (dC, dI)) (ci := 6) (v := .ref r_now) (C := RX8) (T := TX8) (N := 33) hx hb hts iX8 hown hK hP 0 rfl rfl 1 (by decide) (hts (.fieldLink RX8 13 "NeighboursMarkModel" "now" "[I") (by decide +kernel)) (fun _ h9 => h9) rfl dX8_rests_18 ?_
      refine lv_iconst (v := 3) hx hb dX8_rests_21 (by decide) ?_
      refine va_iald hx hb hK hP 2 0 rfl rfl (by unfold vp_in; decide) dX8_rests_22 ?_
      refine lv_topi (fun x6 ex6 => ?_)
      have ex6 : 1 = x6 := (ex6.trans rfl).symm
      subst ex6
      refine lv_iconst (v := 1) hx hb dX8_rests_23 (by decide) ?_
      have hPc := hP.sub (ws' := [(h0, .inr (6, [.ref r_refused, .ref r_now, .ref r_then, .ref r_before, .ref r_asIs, .int 0, .ref r_tape, .int 0, .int 0, .int 0, .ref r_begins, .ref r_kinds, .int 0, .ref r_field, .ref r_willTeach, .ref r_isBack, .ref r_told, .ref r_bestSeats, .ref r_firstSeats, .int 0, .int 0, .int 0, .int 0, .int 0, .int 0, .int 0, .int 0, .int 0, .ref r_restLearn, .ref r_marksNow, .ref r_row, .int 0, .int 0])), (r_now, .inl (cI, 80, .inl (upd (upd (upd (upd (fun _ => 0) 1 2) 3 1) 4 10) 5 1))), (r_before, .inl (cI, 80, .inl (fun _ => 0)))]) [0, 2, 3] rfl
      have hDc := hD.sub (ws' := [(h0, .inr (6, [.ref r_refused, .ref r_now, .ref r_then, .ref r_before, .ref r_asIs, .int 0, .ref r_tape, .int 0, .int 0, .int 0, .ref r_begins, .ref r_kinds, .int 0, .ref r_field, .ref r_willTeach, .ref r_isBack, .ref r_told, .ref r_bestSeats, .ref r_firstSeats, .int 0, .int 0, .int 0, .int 0, .int 0, .int 0, .int 0, .int 0, .int 0, .ref r_restLearn, .ref r_marksNow, .ref r_row, .int 0, .int 0])), (r_now, .inl (cI, 80, .inl (upd (upd (upd (upd (fun _ => 0) 1 2) 3 1) 4 10) 5 1))), (r_before, .inl (cI, 80, .inl (fun _ => 0)))]) [0, 2, 3] (by decide) rfl
      refine vx_callv (wc := [(h0, .inr (6, [.ref r_refused, .ref r_now, .ref r_then, .ref r_before, .ref r_asIs, .int 0, .ref r_tape, .int 0, .int 0, .int 0, .ref r_begins, .ref r_kinds, .int 0, .ref r_field, .ref r_willTeach, .ref r_isBack, .ref r_told, .ref r_bestSeats, .ref r_firstSeats, .int 0, .int 0, .int 0, .int 0, .int 0, .int 0, .int 0, .int 0, .int 0, .ref r_restLearn, .ref r_marksNow, .ref r_row, .int 0, .int 0])), (r_now, .inl (cI, 80, .inl (upd (upd (upd (upd (fun _ => 0) 1 2) 3 1) 4 10) 5 1))), (r_before, .inl (cI, 80, .inl (fun _ => 0)))]) (wr := [(r_refused, .inl (cI, 7, .inl (fun _ => 0)))]) hP hD hS hA [0, 2, 3] [1] rfl rfl (by decide) (by decide) (va_runV (As := [.int 1, .int 1]) (rest := []) ⟨hx, hb, hml, hown, hts⟩ (r_allWays1 l dC dI cI cC cZ _ h0 r_refused r_now r_then r_before r_asIs r_tape r_begins r_kinds r_field r_willTeach r_isBack r_told r_bestSeats r_firstSeats r_restLearn r_marksNow r_row 0 0 0 0 0 0 0 0 0 0 0 0 0 0 0 0 1 (upd (upd (upd (upd (fun _ => 0) 1 2) 3 1) 4 10) 5 1) (fun _ => 0) rfl) (cwV 2 hts gX8_rests_X8_allWays rfl rfl rfl (by decide +kernel) ⟨Nat.le_of_ble_eq_true rfl, Nat.le_of_ble_eq_true rfl⟩) ⟨vx_blind, va_recv hK hPc (ci := 6) (q0 := 0) rfl rfl, vx_pre hK hPc hDc⟩ rfl rfl hl.1 rfl (lv_room (Nat.le_of_ble_eq_true rfl)) dX8_rests_24 ⟨Nat.le_of_ble_eq_true rfl, Nat.le_of_ble_eq_true rfl⟩) (fun u7 H locs hw9 hP hD hS => ?_)
      have hP : va_P (dC, dI) vwCl [(r_refused, .inl (cI, 7, .inl (fun _ => 0))), (h0, .inr (6, [.ref r_refused, .ref r_now, .ref r_then, .ref r_before, .ref r_asIs, .int 0, .ref r_tape, .int 0, .int 0, .int 0, .ref r_begins, .ref r_kinds, .int 0, .ref r_field, .ref r_willTeach, .ref r_isBack, .ref r_told, .ref r_bestSeats, .ref r_firstSeats, .int 0, .int 0, .int 0, .int 0, .int 0, .int 1, .int 0, .int 0, .int 0, .ref r_restLearn, .ref r_marksNow, .ref r_row, .int 0, .int 0])), (r_now, .inl (cI, 80, .inl (va_cpy (va_cpy (upd (upd (upd (upd (fun _ => 0) 1 2) 3 1) 4 10) 5 1) (fun _ => 0) 0 0 80) (upd (upd (upd (upd (fun _ => 0) 1 2) 3 1) 4 10) 5 1) 0 0 80)))] H := hP
      have hD : va_D A [(r_refused, .inl (cI, 7, .inl (fun _ => 0))), (h0, .inr (6, [.ref r_refused, .ref r_now, .ref r_then, .ref r_before, .ref r_asIs, .int 0, .ref r_tape, .int 0, .int 0, .int 0, .ref r_begins, .ref r_kinds, .int 0, .ref r_field, .ref r_willTeach, .ref r_isBack, .ref r_told, .ref r_bestSeats, .ref r_firstSeats, .int 0, .int 0, .int 0, .int 0, .int 0, .int 1, .int 0, .int 0, .int 0, .ref r_restLearn, .ref r_marksNow, .ref r_row, .int 0, .int 0])), (r_now, .inl (cI, 80, .inl (va_cpy (va_cpy (upd (upd (upd (upd (fun _ => 0) 1 2) 3 1) 4 10) 5 1) (fun _ => 0) 0 0 80) (upd (upd (upd (upd (fun _ => 0) 1 2) 3 1) 4 10) 5 1) 0 0 80)))] := hD
      refine lv_iload_n hx hb dX8_rests_27 rfl (lv_at hl 1 rfl) ?_
      refine lv_if_ne (tgt := 38) hx hb dX8_rests_28 (by decide) (fun c10 => ?_) (fun c10 => ?_)
      · skip
        refine lv_aload_n hx hb dX8_rests_38 rfl (lv_at hl 0 rfl) ?_
        refine va_get (D := (dC, dI)) (ci := 6) (v := .int 1) (C := RX8) (T := TX8) (N := 33) hx hb hts iX8 hown hK hP 1 rfl rfl 24 (by decide) (hts (.fieldLink RX8 184 "NeighboursMarkModel" "restMany" "I") (by decide +kernel)) (fun _ h9 => h9) rfl dX8_rests_39 ?_
        refine lv_if_ne (tgt := 50) hx hb dX8_rests_42 (by decide) (fun _ => ?_) (fun c0 => absurd c0 (by decide))
        refine lv_aload_n hx hb dX8_rests_50 rfl (lv_at hl 0 rfl) ?_
        refine va_get (D := (dC, dI)) (ci := 6) (v := .int 0) (C := RX8) (T := TX8) (N := 33) hx hb hts iX8 hown hK hP 1 rfl rfl 25 (by decide) (hts (.fieldLink RX8 201 "NeighboursMarkModel" "restAll" "I") (by decide +kernel)) (fun _ h9 => h9) rfl dX8_rests_51 ?_
        exact vx_iret (u := ()) hx hb hr hlocks hK hP hD hS [] rfl (by decide) (zz_m_rests_1 a c1 c5 c10) dX8_rests_54
      · skip
        refine lv_aload_n hx hb dX8_rests_31 rfl (lv_at hl 0 rfl) ?_
        refine va_get (D := (dC, dI)) (ci := 6) (v := .int 1) (C := RX8) (T := TX8) (N := 33) hx hb hts iX8 hown hK hP 1 rfl rfl 24 (by decide) (hts (.fieldLink RX8 184 "NeighboursMarkModel" "restMany" "I") (by decide +kernel)) (fun _ h9 => h9) rfl dX8_rests_32 ?_
        refine lv_goto (tgt := 54) hx hb dX8_rests_35 (by decide) ?_
        exact vx_iret (u := ()) hx hb hr hlocks hK hP hD hS [] rfl (by decide) (zz_m_rests_2 a c1 c5 c10) dX8_rests_54
    · skip
      refine lv_aload_n hx hb dX8_rests_9 rfl (lv_at hl 0 rfl) ?_
      refine lv_bipush (v := (-2)) hx hb dX8_rests_10 (by decide) ?_
      have hPc := hP.sub (ws' := [(h0, .inr (6, [.ref r_refused, .ref r_now, .ref r_then, .ref r_before, .ref r_asIs, .int 0, .ref r_tape, .int 0, .int 0, .int 0, .ref r_begins, .ref r_kinds, .int 0, .ref r_field, .ref r_willTeach, .ref r_isBack, .ref r_told, .ref r_bestSeats, .ref r_firstSeats, .int 0, .int 0, .int 0, .int 0, .int 0, .int 0, .int 0, .int 0, .int 0, .ref r_restLearn, .ref r_marksNow, .ref r_row, .int 0, .int 0])), (r_refused, .inl (cI, 7, .inl (fun _ => 0)))]) [0, 1] rfl
      have hDc := hD.sub (ws' := [(h0, .inr (6, [.ref r_refused, .ref r_now, .ref r_then, .ref r_before, .ref r_asIs, .int 0, .ref r_tape, .int 0, .int 0, .int 0, .ref r_begins, .ref r_kinds, .int 0, .ref r_field, .ref r_willTeach, .ref r_isBack, .ref r_told, .ref r_bestSeats, .ref r_firstSeats, .int 0, .int 0, .int 0, .int 0, .int 0, .int 0, .int 0, .int 0, .int 0, .ref r_restLearn, .ref r_marksNow, .ref r_row, .int 0, .int 0])), (r_refused, .inl (cI, 7, .inl (fun _ => 0)))]) [0, 1] (by decide) rfl
      refine vx_calli (wc := [(h0, .inr (6, [.ref r_refused, .ref r_now, .ref r_then, .ref r_before, .ref r_asIs, .int 0, .ref r_tape, .int 0, .int 0, .int 0, .ref r_begins, .ref r_kinds, .int 0, .ref r_field, .ref r_willTeach, .ref r_isBack, .ref r_told, .ref r_bestSeats, .ref r_firstSeats, .int 0, .int 0, .int 0, .int 0, .int 0, .int 0, .int 0, .int 0, .int 0, .ref r_restLearn, .ref r_marksNow, .ref r_row, .int 0, .int 0])), (r_refused, .inl (cI, 7, .inl (fun _ => 0)))]) (wr := [(r_now, .inl (cI, 80, .inl (upd (upd (upd (upd (fun _ => 0) 1 2) 3 1) 4 10) 5 1))), (r_before, .inl (cI, 80, .inl (fun _ => 0)))]) hP hD hS hA [0, 1] [2, 3] rfl rfl (by decide) (by decide) (va_runV (As := [.int (-2)]) (rest := []) ⟨hx, hb, hml, hown, hts⟩ (r_no2 l dC dI cI cC cZ _ h0 r_refused r_now r_then r_before r_asIs r_tape r_begins r_kinds r_field r_willTeach r_isBack r_told r_bestSeats r_firstSeats r_restLearn r_marksNow r_row 0 0 0 0 0 0 0 0 0 0 0 0 0 0 0 0 0 (fun _ => 0) rfl) (cwV 1 hts gX8_rests_X8_no rfl rfl rfl (by decide +kernel) ⟨Nat.le_of_ble_eq_true rfl, Nat.le_of_ble_eq_true rfl⟩) ⟨vx_blind, va_recv hK hPc (ci := 6) (q0 := 0) rfl rfl, vx_pre hK hPc hDc⟩ rfl rfl hl.1 rfl (lv_room (Nat.le_of_ble_eq_true rfl)) dX8_rests_12 ⟨Nat.le_of_ble_eq_true rfl, Nat.le_of_ble_eq_true rfl⟩) (fun r12 u11 H locs hw13 hP hD hS => ?_)
      have hP : va_P (dC, dI) vwCl [(r_now, .inl (cI, 80, .inl (upd (upd (upd (upd (fun _ => 0) 1 2) 3 1) 4 10) 5 1))), (r_before, .inl (cI, 80, .inl (fun _ => 0))), (h0, .inr (6, [.ref r_refused, .ref r_now, .ref r_then, .ref r_before, .ref r_asIs, .int 0, .ref r_tape, .int 0, .int 0, .int 0, .ref r_begins, .ref r_kinds, .int 0, .ref r_field, .ref r_willTeach, .ref r_isBack, .ref r_told, .ref r_bestSeats, .ref r_firstSeats, .int 0, .int 0, .int 0, .int 0, .int 0, .int 0, .int 0, .int 0, .int 0, .ref r_restLearn, .ref r_marksNow, .ref r_row, .int 0, .int 0])), (r_refused, .inl (cI, 7, .inl (upd (fun _ => 0) 2 1)))] H := hP
      have hD : va_D A [(r_now, .inl (cI, 80, .inl (upd (upd (upd (upd (fun _ => 0) 1 2) 3 1) 4 10) 5 1))), (r_before, .inl (cI, 80, .inl (fun _ => 0))), (h0, .inr (6, [.ref r_refused, .ref r_now, .ref r_then, .ref r_before, .ref r_asIs, .int 0, .ref r_tape, .int 0, .int 0, .int 0, .ref r_begins, .ref r_kinds, .int 0, .ref r_field, .ref r_willTeach, .ref r_isBack, .ref r_told, .ref r_bestSeats, .ref r_firstSeats, .int 0, .int 0, .int 0, .int 0, .int 0, .int 0, .int 0, .int 0, .int 0, .ref r_restLearn, .ref r_marksNow, .ref r_row, .int 0, .int 0])), (r_refused, .inl (cI, 7, .inl (upd (fun _ => 0) 2 1)))] := hD
      have er12 : (-2) = r12 := Eq.symm hw13
      subst er12
      exact vx_iret (u := ()) hx hb hr hlocks hK hP hD hS [] rfl (by decide) (zz_m_rests_3 a c1 c5) dX8_rests_15
set_option maxHeartbeats 4000000 in
set_option maxRecDepth 100000 in
theorem m_rest (l : Launch) (dC : Nat → ClassId) (dI : Nat → Nat → Nat) (cI cC cZ : ClassId) (sz : Nat) (h0 r_refused r_now r_then r_before r_asIs r_tape r_begins r_kinds r_field r_willTeach r_isBack r_told r_bestSeats r_firstSeats r_restLearn r_marksNow r_row : Nat) (a : Int32) : Met l yX8_rest wsX8_rest ({ frames := 1, cells := 0, slots := 0, locals := 21 }) (va_Pc [.ref h0, .int a] (vx_B (dC, dI) (vx_T cI cC cZ) sz [(h0, .inr (6, [.ref r_refused, .ref r_now, .ref r_then, .ref r_before, .ref r_asIs, .int 0, .ref r_tape, .int 0, .int 0, .int 0, .ref r_begins, .ref r_kinds, .int 0, .ref r_field, .ref r_willTeach, .ref r_isBack, .ref r_told, .ref r_bestSeats, .ref r_firstSeats, .int 0, .int 0, .int 0, .int 0, .int 0, .int 0, .int 0, .int 0, .int 0, .ref r_restLearn, .ref r_marksNow, .ref r_row, .int 0, .int 0])), (r_refused, .inl (cI, 7, .inl (fun _ => 0))), (r_now, .inl (cI, 80, .inl (upd (upd (upd (upd (fun _ => 0) 1 2) 3 1) 4 10) 5 1)))])) (va_Qi (fun (r : Int32) (_ : Unit) => r = (-1)) (vx_C (dC, dI) (vx_T cI cC cZ) (va_A [(h0, .inr (6, [.ref r_refused, .ref r_now, .ref r_then, .ref r_before, .ref r_asIs, .int 0, .ref r_tape, .int 0, .int 0, .int 0, .ref r_begins, .ref r_kinds, .int 0, .ref r_field, .ref r_willTeach, .ref r_isBack, .ref r_told, .ref r_bestSeats, .ref r_firstSeats, .int 0, .int 0, .int 0, .int 0, .int 0, .int 0, .int 0, .int 0, .int 0, .ref r_restLearn, .ref r_marksNow, .ref r_row, .int 0, .int 0])), (r_refused, .inl (cI, 7, .inl (fun _ => 0))), (r_now, .inl (cI, 80, .inl (upd (upd (upd (upd (fun _ => 0) 1 2) 3 1) 4 10) 5 1)))] sz) (fun (u : Unit) => [])) (va_A [(h0, .inr (6, [.ref r_refused, .ref r_now, .ref r_then, .ref r_before, .ref r_asIs, .int 0, .ref r_tape, .int 0, .int 0, .int 0, .ref r_begins, .ref r_kinds, .int 0, .ref r_field, .ref r_willTeach, .ref r_isBack, .ref r_told, .ref r_bestSeats, .ref r_firstSeats, .int 0, .int 0, .int 0, .int 0, .int 0, .int 0, .int 0, .int 0, .int 0, .ref r_restLearn, .ref r_marksNow, .ref r_row, .int 0, .int 0])), (r_refused, .inl (cI, 7, .inl (fun _ => 0))), (r_now, .inl (cI, 80, .inl (upd (upd (upd (upd (fun _ => 0) 1 2) 3 1) 4 10) 5 1)))] sz)) 0 0 (va_A [(h0, .inr (6, [.ref r_refused, .ref r_now, .ref r_then, .ref r_before, .ref r_asIs, .int 0, .ref r_tape, .int 0, .int 0, .int 0, .ref r_begins, .ref r_kinds, .int 0, .ref r_field, .ref r_willTeach, .ref r_isBack, .ref r_told, .ref r_bestSeats, .ref r_firstSeats, .int 0, .int 0, .int 0, .int 0, .int 0, .int 0, .int 0, .int 0, .int 0, .ref r_restLearn, .ref r_marksNow, .ref r_row, .int 0, .int 0])), (r_refused, .inl (cI, 7, .inl (fun _ => 0))), (r_now, .inl (cI, 80, .inl (upd (upd (upd (upd (fun _ => 0) 1 2) 3 1) 4 10) 5 1)))] sz) := by
  refine Met.ofW (cc := cX8_rest) (maxL := 2) (ret := (some .int)) (by decide) rfl ?_
  intro p e s m args below meth c s₁ B hml hv
  obtain ⟨rfl, hsz, hP, hK, hD0⟩ := hv
  have hx := B.exec
  have hb := B.bytes
  have hr := B.returns
  have hts := atoms_spec (ws := wsX8_rest) B.pre
  have hown : s.vm.findClass RX8 = some m.cls := findClass_of_methodNamed B.named
  have hlocks := B.notSynchronized
  subst hsz
  have hD := hD0.self (sz := s.heap.size)
  generalize hAe : va_A [(h0, .inr (6, [.ref r_refused, .ref r_now, .ref r_then, .ref r_before, .ref r_asIs, .int 0, .ref r_tape, .int 0, .int 0, .int 0, .ref r_begins, .ref r_kinds, .int 0, .ref r_field, .ref r_willTeach, .ref r_isBack, .ref r_told, .ref r_bestSeats, .ref r_firstSeats, .int 0, .int 0, .int 0, .int 0, .int 0, .int 0, .int 0, .int 0, .int 0, .ref r_restLearn, .ref r_marksNow, .ref r_row, .int 0, .int 0])), (r_refused, .inl (cI, 7, .inl (fun _ => 0))), (r_now, .inl (cI, 80, .inl (upd (upd (upd (upd (fun _ => 0) 1 2) 3 1) 4 10) 5 1)))] s.heap.size = A at hD ⊢
  have hA : ∀ q : Nat, s.heap.size ≤ q → A q := fun q h => by rw [← hAe]; exact Or.inr h
  have hS : va_S A s.heap s.heap [] := va_S.rf
  have hl := lv_entry ([.ref h0, .int a]) (n := 2) (Nat.le_of_ble_eq_true rfl)
  rw [lg_entry_eq]
  generalize (lg_sl ([.ref h0, .int a]) ++ List.replicate (2 - (lg_sl ([.ref h0, .int a])).length) Slot.unset).toArray = ls at hl ⊢
  have hl : lv_has ls 2 [(0, .ref h0), (1, .int a)] := hl
  refine lv_aload_n hx hb dX8_rest_0 rfl (lv_at hl 0 rfl) ?_
  refine lv_iload_n hx hb dX8_rest_1 rfl (lv_at hl 1 rfl) ?_
  have hPc := hP.sub (ws' := [(h0, .inr (6, [.ref r_refused, .ref r_now, .ref r_then, .ref r_before, .ref r_asIs, .int 0, .ref r_tape, .int 0, .int 0, .int 0, .ref r_begins, .ref r_kinds, .int 0, .ref r_field, .ref r_willTeach, .ref r_isBack, .ref r_told, .ref r_bestSeats, .ref r_firstSeats, .int 0, .int 0, .int 0, .int 0, .int 0, .int 0, .int 0, .int 0, .int 0, .ref r_restLearn, .ref r_marksNow, .ref r_row, .int 0, .int 0])), (r_now, .inl (cI, 80, .inl (upd (upd (upd (upd (fun _ => 0) 1 2) 3 1) 4 10) 5 1)))]) [0, 2] rfl
  have hDc := hD.sub (ws' := [(h0, .inr (6, [.ref r_refused, .ref r_now, .ref r_then, .ref r_before, .ref r_asIs, .int 0, .ref r_tape, .int 0, .int 0, .int 0, .ref r_begins, .ref r_kinds, .int 0, .ref r_field, .ref r_willTeach, .ref r_isBack, .ref r_told, .ref r_bestSeats, .ref r_firstSeats, .int 0, .int 0, .int 0, .int 0, .int 0, .int 0, .int 0, .int 0, .int 0, .ref r_restLearn, .ref r_marksNow, .ref r_row, .int 0, .int 0])), (r_now, .inl (cI, 80, .inl (upd (upd (upd (upd (fun _ => 0) 1 2) 3 1) 4 10) 5 1)))]) [0, 2] (by decide) rfl
  refine vx_calli (wc := [(h0, .inr (6, [.ref r_refused, .ref r_now, .ref r_then, .ref r_before, .ref r_asIs, .int 0, .ref r_tape, .int 0, .int 0, .int 0, .ref r_begins, .ref r_kinds, .int 0, .ref r_field, .ref r_willTeach, .ref r_isBack, .ref r_told, .ref r_bestSeats, .ref r_firstSeats, .int 0, .int 0, .int 0, .int 0, .int 0, .int 0, .int 0, .int 0, .int 0, .ref r_restLearn, .ref r_marksNow, .ref r_row, .int 0, .int 0])), (r_now, .inl (cI, 80, .inl (upd (upd (upd (upd (fun _ => 0) 1 2) 3 1) 4 10) 5 1)))]) (wr := [(r_refused, .inl (cI, 7, .inl (fun _ => 0)))]) hP hD hS hA [0, 2] [1] rfl rfl (by decide) (by decide) (va_runV (As := [.int a]) (rest := []) ⟨hx, hb, hml, hown, hts⟩ (r_isNobody l dC dI cI cC cZ _ h0 r_refused r_now r_then r_before r_asIs r_tape r_begins r_kinds r_field r_willTeach r_isBack r_told r_bestSeats r_firstSeats r_restLearn r_marksNow r_row 0 0 0 0 0 0 0 0 0 0 0 0 0 0 0 0 a (upd (upd (upd (upd (fun _ => 0) 1 2) 3 1) 4 10) 5 1) rfl) (cwV 1 hts gX8_rest_X8_isNobody rfl rfl rfl (by decide +kernel) ⟨Nat.le_of_ble_eq_true rfl, Nat.le_of_ble_eq_true rfl⟩) ⟨vx_blind, va_recv hK hPc (ci := 6) (q0 := 0) rfl rfl, vx_pre hK hPc hDc⟩ rfl rfl hl.1 rfl (lv_room (Nat.le_of_ble_eq_true rfl)) dX8_rest_2 ⟨Nat.le_of_ble_eq_true rfl, Nat.le_of_ble_eq_true rfl⟩) (fun r2 u1 H locs hw3 hP hD hS => ?_)
  have hP : va_P (dC, dI) vwCl [(r_refused, .inl (cI, 7, .inl (fun _ => 0))), (h0, .inr (6, [.ref r_refused, .ref r_now, .ref r_then, .ref r_before, .ref r_asIs, .int 0, .ref r_tape, .int 0, .int 0, .int 0, .ref r_begins, .ref r_kinds, .int 0, .ref r_field, .ref r_willTeach, .ref r_isBack, .ref r_told, .ref r_bestSeats, .ref r_firstSeats, .int 0, .int 0, .int 0, .int 0, .int 0, .int 0, .int 0, .int 0, .int 0, .ref r_restLearn, .ref r_marksNow, .ref r_row, .int 0, .int 0])), (r_now, .inl (cI, 80, .inl (upd (upd (upd (upd (fun _ => 0) 1 2) 3 1) 4 10) 5 1)))] H := hP
  have hD : va_D A [(r_refused, .inl (cI, 7, .inl (fun _ => 0))), (h0, .inr (6, [.ref r_refused, .ref r_now, .ref r_then, .ref r_before, .ref r_asIs, .int 0, .ref r_tape, .int 0, .int 0, .int 0, .ref r_begins, .ref r_kinds, .int 0, .ref r_field, .ref r_willTeach, .ref r_isBack, .ref r_told, .ref r_bestSeats, .ref r_firstSeats, .int 0, .int 0, .int 0, .int 0, .int 0, .int 0, .int 0, .int 0, .int 0, .ref r_restLearn, .ref r_marksNow, .ref r_row, .int 0, .int 0])), (r_now, .inl (cI, 80, .inl (upd (upd (upd (upd (fun _ => 0) 1 2) 3 1) 4 10) 5 1)))] := hD
  have er2 : 1 = r2 := Eq.symm hw3
  subst er2
  refine lv_if_eq (tgt := 14) hx hb dX8_rest_5 (by decide) (fun c0 => absurd c0 (by decide)) (fun _ => ?_)
  refine lv_aload_n hx hb dX8_rest_8 rfl (lv_at hl 0 rfl) ?_
  refine lv_iconst (v := (-1)) hx hb dX8_rest_9 (by decide) ?_
  have hPc := hP.sub (ws' := [(h0, .inr (6, [.ref r_refused, .ref r_now, .ref r_then, .ref r_before, .ref r_asIs, .int 0, .ref r_tape, .int 0, .int 0, .int 0, .ref r_begins, .ref r_kinds, .int 0, .ref r_field, .ref r_willTeach, .ref r_isBack, .ref r_told, .ref r_bestSeats, .ref r_firstSeats, .int 0, .int 0, .int 0, .int 0, .int 0, .int 0, .int 0, .int 0, .int 0, .ref r_restLearn, .ref r_marksNow, .ref r_row, .int 0, .int 0])), (r_refused, .inl (cI, 7, .inl (fun _ => 0)))]) [1, 0] rfl
  have hDc := hD.sub (ws' := [(h0, .inr (6, [.ref r_refused, .ref r_now, .ref r_then, .ref r_before, .ref r_asIs, .int 0, .ref r_tape, .int 0, .int 0, .int 0, .ref r_begins, .ref r_kinds, .int 0, .ref r_field, .ref r_willTeach, .ref r_isBack, .ref r_told, .ref r_bestSeats, .ref r_firstSeats, .int 0, .int 0, .int 0, .int 0, .int 0, .int 0, .int 0, .int 0, .int 0, .ref r_restLearn, .ref r_marksNow, .ref r_row, .int 0, .int 0])), (r_refused, .inl (cI, 7, .inl (fun _ => 0)))]) [1, 0] (by decide) rfl
  refine vx_calli (wc := [(h0, .inr (6, [.ref r_refused, .ref r_now, .ref r_then, .ref r_before, .ref r_asIs, .int 0, .ref r_tape, .int 0, .int 0, .int 0, .ref r_begins, .ref r_kinds, .int 0, .ref r_field, .ref r_willTeach, .ref r_isBack, .ref r_told, .ref r_bestSeats, .ref r_firstSeats, .int 0, .int 0, .int 0, .int 0, .int 0, .int 0, .int 0, .int 0, .int 0, .ref r_restLearn, .ref r_marksNow, .ref r_row, .int 0, .int 0])), (r_refused, .inl (cI, 7, .inl (fun _ => 0)))]) (wr := [(r_now, .inl (cI, 80, .inl (upd (upd (upd (upd (fun _ => 0) 1 2) 3 1) 4 10) 5 1)))]) hP hD hS hA [1, 0] [2] rfl rfl (by decide) (by decide) (va_runV (As := [.int (-1)]) (rest := []) ⟨hx, hb, hml, hown, hts⟩ (r_no1 l dC dI cI cC cZ _ h0 r_refused r_now r_then r_before r_asIs r_tape r_begins r_kinds r_field r_willTeach r_isBack r_told r_bestSeats r_firstSeats r_restLearn r_marksNow r_row 0 0 0 0 0 0 0 0 0 0 0 0 0 0 0 0 0 (fun _ => 0) rfl) (cwV 1 hts gX8_rest_X8_no rfl rfl rfl (by decide +kernel) ⟨Nat.le_of_ble_eq_true rfl, Nat.le_of_ble_eq_true rfl⟩) ⟨vx_blind, va_recv hK hPc (ci := 6) (q0 := 0) rfl rfl, vx_pre hK hPc hDc⟩ rfl rfl hl.1 rfl (lv_room (Nat.le_of_ble_eq_true rfl)) dX8_rest_10 ⟨Nat.le_of_ble_eq_true rfl, Nat.le_of_ble_eq_true rfl⟩) (fun r5 u4 H locs hw6 hP hD hS => ?_)
  have hP : va_P (dC, dI) vwCl [(r_now, .inl (cI, 80, .inl (upd (upd (upd (upd (fun _ => 0) 1 2) 3 1) 4 10) 5 1))), (h0, .inr (6, [.ref r_refused, .ref r_now, .ref r_then, .ref r_before, .ref r_asIs, .int 0, .ref r_tape, .int 0, .int 0, .int 0, .ref r_begins, .ref r_kinds, .int 0, .ref r_field, .ref r_willTeach, .ref r_isBack, .ref r_told, .ref r_bestSeats, .ref r_firstSeats, .int 0, .int 0, .int 0, .int 0, .int 0, .int 0, .int 0, .int 0, .int 0, .ref r_restLearn, .ref r_marksNow, .ref r_row, .int 0, .int 0])), (r_refused, .inl (cI, 7, .inl (upd (fun _ => 0) 1 1)))] H := hP
  have hD : va_D A [(r_now, .inl (cI, 80, .inl (upd (upd (upd (upd (fun _ => 0) 1 2) 3 1) 4 10) 5 1))), (h0, .inr (6, [.ref r_refused, .ref r_now, .ref r_then, .ref r_before, .ref r_asIs, .int 0, .ref r_tape, .int 0, .int 0, .int 0, .ref r_begins, .ref r_kinds, .int 0, .ref r_field, .ref r_willTeach, .ref r_isBack, .ref r_told, .ref r_bestSeats, .ref r_firstSeats, .int 0, .int 0, .int 0, .int 0, .int 0, .int 0, .int 0, .int 0, .int 0, .ref r_restLearn, .ref r_marksNow, .ref r_row, .int 0, .int 0])), (r_refused, .inl (cI, 7, .inl (upd (fun _ => 0) 1 1)))] := hD
  have er5 : (-1) = r5 := Eq.symm hw6
  subst er5
  exact vx_iret (u := ()) hx hb hr hlocks hK hP hD hS [] rfl (by decide) rfl dX8_rest_13
set_option maxHeartbeats 4000000 in
set_option maxRecDepth 100000 in
theorem m_good (l : Launch) (dC : Nat → ClassId) (dI : Nat → Nat → Nat) (cI cC cZ : ClassId) (sz : Nat) (h0 r_refused r_now r_then r_before r_asIs r_tape r_begins r_kinds r_field r_willTeach r_isBack r_told r_bestSeats r_firstSeats r_restLearn r_marksNow r_row : Nat) : Met l yX8_good wsX8_good ({ frames := 2, cells := 0, slots := 0, locals := 49 }) (va_Pc [.ref h0] (vx_B (dC, dI) (vx_T cI cC cZ) sz [(h0, .inr (6, [.ref r_refused, .ref r_now, .ref r_then, .ref r_before, .ref r_asIs, .int 0, .ref r_tape, .int 0, .int 0, .int 0, .ref r_begins, .ref r_kinds, .int 0, .ref r_field, .ref r_willTeach, .ref r_isBack, .ref r_told, .ref r_bestSeats, .ref r_firstSeats, .int 0, .int 0, .int 0, .int 0, .int 0, .int 0, .int 0, .int 0, .int 0, .ref r_restLearn, .ref r_marksNow, .ref r_row, .int 0, .int 0])), (r_now, .inl (cI, 80, .inl (upd (upd (upd (upd (fun _ => 0) 1 2) 3 1) 4 10) 5 1))), (r_before, .inl (cI, 80, .inl (fun _ => 0)))])) (va_Qi (fun (r : Int32) (_ : Unit) => r = 0) (vx_C (dC, dI) (vx_T cI cC cZ) (va_A [(h0, .inr (6, [.ref r_refused, .ref r_now, .ref r_then, .ref r_before, .ref r_asIs, .int 0, .ref r_tape, .int 0, .int 0, .int 0, .ref r_begins, .ref r_kinds, .int 0, .ref r_field, .ref r_willTeach, .ref r_isBack, .ref r_told, .ref r_bestSeats, .ref r_firstSeats, .int 0, .int 0, .int 0, .int 0, .int 0, .int 0, .int 0, .int 0, .int 0, .ref r_restLearn, .ref r_marksNow, .ref r_row, .int 0, .int 0])), (r_now, .inl (cI, 80, .inl (upd (upd (upd (upd (fun _ => 0) 1 2) 3 1) 4 10) 5 1))), (r_before, .inl (cI, 80, .inl (fun _ => 0)))] sz) (fun (u : Unit) => [])) (va_A [(h0, .inr (6, [.ref r_refused, .ref r_now, .ref r_then, .ref r_before, .ref r_asIs, .int 0, .ref r_tape, .int 0, .int 0, .int 0, .ref r_begins, .ref r_kinds, .int 0, .ref r_field, .ref r_willTeach, .ref r_isBack, .ref r_told, .ref r_bestSeats, .ref r_firstSeats, .int 0, .int 0, .int 0, .int 0, .int 0, .int 0, .int 0, .int 0, .int 0, .ref r_restLearn, .ref r_marksNow, .ref r_row, .int 0, .int 0])), (r_now, .inl (cI, 80, .inl (upd (upd (upd (upd (fun _ => 0) 1 2) 3 1) 4 10) 5 1))), (r_before, .inl (cI, 80, .inl (fun _ => 0)))] sz)) 0 0 (va_A [(h0, .inr (6, [.ref r_refused, .ref r_now, .ref r_then, .ref r_before, .ref r_asIs, .int 0, .ref r_tape, .int 0, .int 0, .int 0, .ref r_begins, .ref r_kinds, .int 0, .ref r_field, .ref r_willTeach, .ref r_isBack, .ref r_told, .ref r_bestSeats, .ref r_firstSeats, .int 0, .int 0, .int 0, .int 0, .int 0, .int 0, .int 0, .int 0, .int 0, .ref r_restLearn, .ref r_marksNow, .ref r_row, .int 0, .int 0])), (r_now, .inl (cI, 80, .inl (upd (upd (upd (upd (fun _ => 0) 1 2) 3 1) 4 10) 5 1))), (r_before, .inl (cI, 80, .inl (fun _ => 0)))] sz) := by
  refine Met.ofW (cc := cX8_good) (maxL := 1) (ret := (some .int)) (by decide) rfl ?_
  intro p e s m args below meth c s₁ B hml hv
  obtain ⟨rfl, hsz, hP, hK, hD0⟩ := hv
  have hx := B.exec
  have hb := B.bytes
  have hr := B.returns
  have hts := atoms_spec (ws := wsX8_good) B.pre
  have hown : s.vm.findClass RX8 = some m.cls := findClass_of_methodNamed B.named
  have hlocks := B.notSynchronized
  subst hsz
  have hD := hD0.self (sz := s.heap.size)
  generalize hAe : va_A [(h0, .inr (6, [.ref r_refused, .ref r_now, .ref r_then, .ref r_before, .ref r_asIs, .int 0, .ref r_tape, .int 0, .int 0, .int 0, .ref r_begins, .ref r_kinds, .int 0, .ref r_field, .ref r_willTeach, .ref r_isBack, .ref r_told, .ref r_bestSeats, .ref r_firstSeats, .int 0, .int 0, .int 0, .int 0, .int 0, .int 0, .int 0, .int 0, .int 0, .ref r_restLearn, .ref r_marksNow, .ref r_row, .int 0, .int 0])), (r_now, .inl (cI, 80, .inl (upd (upd (upd (upd (fun _ => 0) 1 2) 3 1) 4 10) 5 1))), (r_before, .inl (cI, 80, .inl (fun _ => 0)))] s.heap.size = A at hD ⊢
  have hA : ∀ q : Nat, s.heap.size ≤ q → A q := fun q h => by rw [← hAe]; exact Or.inr h
  have hS : va_S A s.heap s.heap [] := va_S.rf
  have hl := lv_entry ([.ref h0]) (n := 1) (Nat.le_of_ble_eq_true rfl)
  rw [lg_entry_eq]
  generalize (lg_sl ([.ref h0]) ++ List.replicate (1 - (lg_sl ([.ref h0])).length) Slot.unset).toArray = ls at hl ⊢
  have hl : lv_has ls 1 [(0, .ref h0)] := hl
  have iX8 : ∀ w ∈ u_ws RX8 TX8 33, w ∈ wsX8_good := by decide +kernel
  refine lv_aload_n hx hb dX8_good_0 rfl (lv_at hl 0 rfl) ?_
  refine lv_aload_n hx hb dX8_good_1 rfl (lv_at hl 0 rfl) ?_
  refine va_get (D := (dC, dI)) (ci := 6) (v := .ref r_now) (C := RX8) (T := TX8) (N := 33) hx hb hts iX8 hown hK hP 0 rfl rfl 1 (by decide) (hts (.fieldLink RX8 13 "NeighboursMarkModel" "now" "[I") (by decide +kernel)) (fun _ h9 => h9) rfl dX8_good_2 ?_
  refine lv_iconst (v := 3) hx hb dX8_good_5 (by decide) ?_
  refine va_iald hx hb hK hP 1 0 rfl rfl (by unfold vp_in; decide) dX8_good_6 ?_
  refine lv_topi (fun x1 ex1 => ?_)
  have ex1 : 1 = x1 := (ex1.trans rfl).symm
  subst ex1
  refine lv_iconst (v := 0) hx hb dX8_good_7 (by decide) ?_
  have hPc := hP.sub (ws' := [(h0, .inr (6, [.ref r_refused, .ref r_now, .ref r_then, .ref r_before, .ref r_asIs, .int 0, .ref r_tape, .int 0, .int 0, .int 0, .ref r_begins, .ref r_kinds, .int 0, .ref r_field, .ref r_willTeach, .ref r_isBack, .ref r_told, .ref r_bestSeats, .ref r_firstSeats, .int 0, .int 0, .int 0, .int 0, .int 0, .int 0, .int 0, .int 0, .int 0, .ref r_restLearn, .ref r_marksNow, .ref r_row, .int 0, .int 0])), (r_now, .inl (cI, 80, .inl (upd (upd (upd (upd (fun _ => 0) 1 2) 3 1) 4 10) 5 1))), (r_before, .inl (cI, 80, .inl (fun _ => 0)))]) [0, 1, 2] rfl
  have hDc := hD.sub (ws' := [(h0, .inr (6, [.ref r_refused, .ref r_now, .ref r_then, .ref r_before, .ref r_asIs, .int 0, .ref r_tape, .int 0, .int 0, .int 0, .ref r_begins, .ref r_kinds, .int 0, .ref r_field, .ref r_willTeach, .ref r_isBack, .ref r_told, .ref r_bestSeats, .ref r_firstSeats, .int 0, .int 0, .int 0, .int 0, .int 0, .int 0, .int 0, .int 0, .int 0, .ref r_restLearn, .ref r_marksNow, .ref r_row, .int 0, .int 0])), (r_now, .inl (cI, 80, .inl (upd (upd (upd (upd (fun _ => 0) 1 2) 3 1) 4 10) 5 1))), (r_before, .inl (cI, 80, .inl (fun _ => 0)))]) [0, 1, 2] (by decide) rfl
  refine vx_callv (wc := [(h0, .inr (6, [.ref r_refused, .ref r_now, .ref r_then, .ref r_before, .ref r_asIs, .int 0, .ref r_tape, .int 0, .int 0, .int 0, .ref r_begins, .ref r_kinds, .int 0, .ref r_field, .ref r_willTeach, .ref r_isBack, .ref r_told, .ref r_bestSeats, .ref r_firstSeats, .int 0, .int 0, .int 0, .int 0, .int 0, .int 0, .int 0, .int 0, .int 0, .ref r_restLearn, .ref r_marksNow, .ref r_row, .int 0, .int 0])), (r_now, .inl (cI, 80, .inl (upd (upd (upd (upd (fun _ => 0) 1 2) 3 1) 4 10) 5 1))), (r_before, .inl (cI, 80, .inl (fun _ => 0)))]) (wr := []) hP hD hS hA [0, 1, 2] [] rfl rfl (by decide) (by decide) (va_runV (As := [.int 1, .int 0]) (rest := []) ⟨hx, hb, hml, hown, hts⟩ (r_allWays0 l dC dI cI cC cZ _ h0 r_refused r_now r_then r_before r_asIs r_tape r_begins r_kinds r_field r_willTeach r_isBack r_told r_bestSeats r_firstSeats r_restLearn r_marksNow r_row 0 0 0 0 0 0 0 0 0 0 0 0 0 0 0 0 1 (upd (upd (upd (upd (fun _ => 0) 1 2) 3 1) 4 10) 5 1) (fun _ => 0) rfl) (cwV 2 hts gX8_good_X8_allWays rfl rfl rfl (by decide +kernel) ⟨Nat.le_of_ble_eq_true rfl, Nat.le_of_ble_eq_true rfl⟩) ⟨vx_blind, va_recv hK hPc (ci := 6) (q0 := 0) rfl rfl, vx_pre hK hPc hDc⟩ rfl rfl hl.1 rfl (lv_room (Nat.le_of_ble_eq_true rfl)) dX8_good_8 ⟨Nat.le_of_ble_eq_true rfl, Nat.le_of_ble_eq_true rfl⟩) (fun u2 H locs hw4 hP hD hS => ?_)
  have hP : va_P (dC, dI) vwCl [(h0, .inr (6, [.ref r_refused, .ref r_now, .ref r_then, .ref r_before, .ref r_asIs, .int 0, .ref r_tape, .int 0, .int 0, .int 0, .ref r_begins, .ref r_kinds, .int 0, .ref r_field, .ref r_willTeach, .ref r_isBack, .ref r_told, .ref r_bestSeats, .ref r_firstSeats, .int 0, .int 0, .int 0, .int 0, .int 0, .int 0, .int 0, .int 0, .int 0, .ref r_restLearn, .ref r_marksNow, .ref r_row, .int 0, .int 0])), (r_now, .inl (cI, 80, .inl (va_cpy (va_cpy (upd (upd (upd (upd (fun _ => 0) 1 2) 3 1) 4 10) 5 1) (fun _ => 0) 0 0 80) (upd (upd (upd (upd (fun _ => 0) 1 2) 3 1) 4 10) 5 1) 0 0 80)))] H := hP
  have hD : va_D A [(h0, .inr (6, [.ref r_refused, .ref r_now, .ref r_then, .ref r_before, .ref r_asIs, .int 0, .ref r_tape, .int 0, .int 0, .int 0, .ref r_begins, .ref r_kinds, .int 0, .ref r_field, .ref r_willTeach, .ref r_isBack, .ref r_told, .ref r_bestSeats, .ref r_firstSeats, .int 0, .int 0, .int 0, .int 0, .int 0, .int 0, .int 0, .int 0, .int 0, .ref r_restLearn, .ref r_marksNow, .ref r_row, .int 0, .int 0])), (r_now, .inl (cI, 80, .inl (va_cpy (va_cpy (upd (upd (upd (upd (fun _ => 0) 1 2) 3 1) 4 10) 5 1) (fun _ => 0) 0 0 80) (upd (upd (upd (upd (fun _ => 0) 1 2) 3 1) 4 10) 5 1) 0 0 80)))] := hD
  refine lv_aload_n hx hb dX8_good_11 rfl (lv_at hl 0 rfl) ?_
  refine va_get (D := (dC, dI)) (ci := 6) (v := .int 0) (C := RX8) (T := TX8) (N := 33) hx hb hts iX8 hown hK hP 0 rfl rfl 27 (by decide) (hts (.fieldLink RX8 187 "NeighboursMarkModel" "mostAll" "I") (by decide +kernel)) (fun _ h9 => h9) rfl dX8_good_12 ?_
  exact vx_iret (u := ()) hx hb hr hlocks hK hP hD hS [] rfl (by decide) rfl dX8_good_15
set_option maxHeartbeats 4000000 in
set_option maxRecDepth 100000 in
theorem m_far (l : Launch) (dC : Nat → ClassId) (dI : Nat → Nat → Nat) (cI cC cZ : ClassId) (sz : Nat) (h0 r_refused r_now r_then r_before r_asIs r_tape r_begins r_kinds r_field r_willTeach r_isBack r_told r_bestSeats r_firstSeats r_restLearn r_marksNow r_row : Nat) : Met l yX8_far wsX8_far ({ frames := 2, cells := 0, slots := 0, locals := 51 }) (va_Pc [.ref h0] (vx_B (dC, dI) (vx_T cI cC cZ) sz [(h0, .inr (6, [.ref r_refused, .ref r_now, .ref r_then, .ref r_before, .ref r_asIs, .int 0, .ref r_tape, .int 0, .int 0, .int 0, .ref r_begins, .ref r_kinds, .int 0, .ref r_field, .ref r_willTeach, .ref r_isBack, .ref r_told, .ref r_bestSeats, .ref r_firstSeats, .int 0, .int 0, .int 0, .int 0, .int 0, .int 0, .int 0, .int 0, .int 0, .ref r_restLearn, .ref r_marksNow, .ref r_row, .int 0, .int 0])), (r_now, .inl (cI, 80, .inl (upd (upd (upd (upd (fun _ => 0) 1 2) 3 1) 4 10) 5 1))), (r_before, .inl (cI, 80, .inl (fun _ => 0)))])) (va_Qi (fun (r : Int32) (_ : Unit) => r = 0) (vx_C (dC, dI) (vx_T cI cC cZ) (va_A [(h0, .inr (6, [.ref r_refused, .ref r_now, .ref r_then, .ref r_before, .ref r_asIs, .int 0, .ref r_tape, .int 0, .int 0, .int 0, .ref r_begins, .ref r_kinds, .int 0, .ref r_field, .ref r_willTeach, .ref r_isBack, .ref r_told, .ref r_bestSeats, .ref r_firstSeats, .int 0, .int 0, .int 0, .int 0, .int 0, .int 0, .int 0, .int 0, .int 0, .ref r_restLearn, .ref r_marksNow, .ref r_row, .int 0, .int 0])), (r_now, .inl (cI, 80, .inl (upd (upd (upd (upd (fun _ => 0) 1 2) 3 1) 4 10) 5 1))), (r_before, .inl (cI, 80, .inl (fun _ => 0)))] sz) (fun (u : Unit) => [])) (va_A [(h0, .inr (6, [.ref r_refused, .ref r_now, .ref r_then, .ref r_before, .ref r_asIs, .int 0, .ref r_tape, .int 0, .int 0, .int 0, .ref r_begins, .ref r_kinds, .int 0, .ref r_field, .ref r_willTeach, .ref r_isBack, .ref r_told, .ref r_bestSeats, .ref r_firstSeats, .int 0, .int 0, .int 0, .int 0, .int 0, .int 0, .int 0, .int 0, .int 0, .ref r_restLearn, .ref r_marksNow, .ref r_row, .int 0, .int 0])), (r_now, .inl (cI, 80, .inl (upd (upd (upd (upd (fun _ => 0) 1 2) 3 1) 4 10) 5 1))), (r_before, .inl (cI, 80, .inl (fun _ => 0)))] sz)) 0 0 (va_A [(h0, .inr (6, [.ref r_refused, .ref r_now, .ref r_then, .ref r_before, .ref r_asIs, .int 0, .ref r_tape, .int 0, .int 0, .int 0, .ref r_begins, .ref r_kinds, .int 0, .ref r_field, .ref r_willTeach, .ref r_isBack, .ref r_told, .ref r_bestSeats, .ref r_firstSeats, .int 0, .int 0, .int 0, .int 0, .int 0, .int 0, .int 0, .int 0, .int 0, .ref r_restLearn, .ref r_marksNow, .ref r_row, .int 0, .int 0])), (r_now, .inl (cI, 80, .inl (upd (upd (upd (upd (fun _ => 0) 1 2) 3 1) 4 10) 5 1))), (r_before, .inl (cI, 80, .inl (fun _ => 0)))] sz) := by
  refine Met.ofW (cc := cX8_far) (maxL := 1) (ret := (some .int)) (by decide) rfl ?_
  intro p e s m args below meth c s₁ B hml hv
  obtain ⟨rfl, hsz, hP, hK, hD0⟩ := hv
  have hx := B.exec
  have hb := B.bytes
  have hr := B.returns
  have hts := atoms_spec (ws := wsX8_far) B.pre
  have hown : s.vm.findClass RX8 = some m.cls := findClass_of_methodNamed B.named
  have hlocks := B.notSynchronized
  subst hsz
  have hD := hD0.self (sz := s.heap.size)
  generalize hAe : va_A [(h0, .inr (6, [.ref r_refused, .ref r_now, .ref r_then, .ref r_before, .ref r_asIs, .int 0, .ref r_tape, .int 0, .int 0, .int 0, .ref r_begins, .ref r_kinds, .int 0, .ref r_field, .ref r_willTeach, .ref r_isBack, .ref r_told, .ref r_bestSeats, .ref r_firstSeats, .int 0, .int 0, .int 0, .int 0, .int 0, .int 0, .int 0, .int 0, .int 0, .ref r_restLearn, .ref r_marksNow, .ref r_row, .int 0, .int 0])), (r_now, .inl (cI, 80, .inl (upd (upd (upd (upd (fun _ => 0) 1 2) 3 1) 4 10) 5 1))), (r_before, .inl (cI, 80, .inl (fun _ => 0)))] s.heap.size = A at hD ⊢
  have hA : ∀ q : Nat, s.heap.size ≤ q → A q := fun q h => by rw [← hAe]; exact Or.inr h
  have hS : va_S A s.heap s.heap [] := va_S.rf
  have hl := lv_entry ([.ref h0]) (n := 1) (Nat.le_of_ble_eq_true rfl)
  rw [lg_entry_eq]
  generalize (lg_sl ([.ref h0]) ++ List.replicate (1 - (lg_sl ([.ref h0])).length) Slot.unset).toArray = ls at hl ⊢
  have hl : lv_has ls 1 [(0, .ref h0)] := hl
  have iX8 : ∀ w ∈ u_ws RX8 TX8 33, w ∈ wsX8_far := by decide +kernel
  refine lv_aload_n hx hb dX8_far_0 rfl (lv_at hl 0 rfl) ?_
  refine lv_aload_n hx hb dX8_far_1 rfl (lv_at hl 0 rfl) ?_
  refine va_get (D := (dC, dI)) (ci := 6) (v := .ref r_now) (C := RX8) (T := TX8) (N := 33) hx hb hts iX8 hown hK hP 0 rfl rfl 1 (by decide) (hts (.fieldLink RX8 13 "NeighboursMarkModel" "now" "[I") (by decide +kernel)) (fun _ h9 => h9) rfl dX8_far_2 ?_
  refine lv_iconst (v := 3) hx hb dX8_far_5 (by decide) ?_
  refine va_iald hx hb hK hP 1 0 rfl rfl (by unfold vp_in; decide) dX8_far_6 ?_
  refine lv_topi (fun x1 ex1 => ?_)
  have ex1 : 1 = x1 := (ex1.trans rfl).symm
  subst ex1
  refine lv_iconst (v := 1) hx hb dX8_far_7 (by decide) ?_
  have hPc := hP.sub (ws' := [(h0, .inr (6, [.ref r_refused, .ref r_now, .ref r_then, .ref r_before, .ref r_asIs, .int 0, .ref r_tape, .int 0, .int 0, .int 0, .ref r_begins, .ref r_kinds, .int 0, .ref r_field, .ref r_willTeach, .ref r_isBack, .ref r_told, .ref r_bestSeats, .ref r_firstSeats, .int 0, .int 0, .int 0, .int 0, .int 0, .int 0, .int 0, .int 0, .int 0, .ref r_restLearn, .ref r_marksNow, .ref r_row, .int 0, .int 0])), (r_now, .inl (cI, 80, .inl (upd (upd (upd (upd (fun _ => 0) 1 2) 3 1) 4 10) 5 1))), (r_before, .inl (cI, 80, .inl (fun _ => 0)))]) [0, 1, 2] rfl
  have hDc := hD.sub (ws' := [(h0, .inr (6, [.ref r_refused, .ref r_now, .ref r_then, .ref r_before, .ref r_asIs, .int 0, .ref r_tape, .int 0, .int 0, .int 0, .ref r_begins, .ref r_kinds, .int 0, .ref r_field, .ref r_willTeach, .ref r_isBack, .ref r_told, .ref r_bestSeats, .ref r_firstSeats, .int 0, .int 0, .int 0, .int 0, .int 0, .int 0, .int 0, .int 0, .int 0, .ref r_restLearn, .ref r_marksNow, .ref r_row, .int 0, .int 0])), (r_now, .inl (cI, 80, .inl (upd (upd (upd (upd (fun _ => 0) 1 2) 3 1) 4 10) 5 1))), (r_before, .inl (cI, 80, .inl (fun _ => 0)))]) [0, 1, 2] (by decide) rfl
  refine vx_callv (wc := [(h0, .inr (6, [.ref r_refused, .ref r_now, .ref r_then, .ref r_before, .ref r_asIs, .int 0, .ref r_tape, .int 0, .int 0, .int 0, .ref r_begins, .ref r_kinds, .int 0, .ref r_field, .ref r_willTeach, .ref r_isBack, .ref r_told, .ref r_bestSeats, .ref r_firstSeats, .int 0, .int 0, .int 0, .int 0, .int 0, .int 0, .int 0, .int 0, .int 0, .ref r_restLearn, .ref r_marksNow, .ref r_row, .int 0, .int 0])), (r_now, .inl (cI, 80, .inl (upd (upd (upd (upd (fun _ => 0) 1 2) 3 1) 4 10) 5 1))), (r_before, .inl (cI, 80, .inl (fun _ => 0)))]) (wr := []) hP hD hS hA [0, 1, 2] [] rfl rfl (by decide) (by decide) (va_runV (As := [.int 1, .int 1]) (rest := []) ⟨hx, hb, hml, hown, hts⟩ (r_allWays1 l dC dI cI cC cZ _ h0 r_refused r_now r_then r_before r_asIs r_tape r_begins r_kinds r_field r_willTeach r_isBack r_told r_bestSeats r_firstSeats r_restLearn r_marksNow r_row 0 0 0 0 0 0 0 0 0 0 0 0 0 0 0 0 1 (upd (upd (upd (upd (fun _ => 0) 1 2) 3 1) 4 10) 5 1) (fun _ => 0) rfl) (cwV 2 hts gX8_far_X8_allWays rfl rfl rfl (by decide +kernel) ⟨Nat.le_of_ble_eq_true rfl, Nat.le_of_ble_eq_true rfl⟩) ⟨vx_blind, va_recv hK hPc (ci := 6) (q0 := 0) rfl rfl, vx_pre hK hPc hDc⟩ rfl rfl hl.1 rfl (lv_room (Nat.le_of_ble_eq_true rfl)) dX8_far_8 ⟨Nat.le_of_ble_eq_true rfl, Nat.le_of_ble_eq_true rfl⟩) (fun u2 H locs hw4 hP hD hS => ?_)
  have hP : va_P (dC, dI) vwCl [(h0, .inr (6, [.ref r_refused, .ref r_now, .ref r_then, .ref r_before, .ref r_asIs, .int 0, .ref r_tape, .int 0, .int 0, .int 0, .ref r_begins, .ref r_kinds, .int 0, .ref r_field, .ref r_willTeach, .ref r_isBack, .ref r_told, .ref r_bestSeats, .ref r_firstSeats, .int 0, .int 0, .int 0, .int 0, .int 0, .int 1, .int 0, .int 0, .int 0, .ref r_restLearn, .ref r_marksNow, .ref r_row, .int 0, .int 0])), (r_now, .inl (cI, 80, .inl (va_cpy (va_cpy (upd (upd (upd (upd (fun _ => 0) 1 2) 3 1) 4 10) 5 1) (fun _ => 0) 0 0 80) (upd (upd (upd (upd (fun _ => 0) 1 2) 3 1) 4 10) 5 1) 0 0 80)))] H := hP
  have hD : va_D A [(h0, .inr (6, [.ref r_refused, .ref r_now, .ref r_then, .ref r_before, .ref r_asIs, .int 0, .ref r_tape, .int 0, .int 0, .int 0, .ref r_begins, .ref r_kinds, .int 0, .ref r_field, .ref r_willTeach, .ref r_isBack, .ref r_told, .ref r_bestSeats, .ref r_firstSeats, .int 0, .int 0, .int 0, .int 0, .int 0, .int 1, .int 0, .int 0, .int 0, .ref r_restLearn, .ref r_marksNow, .ref r_row, .int 0, .int 0])), (r_now, .inl (cI, 80, .inl (va_cpy (va_cpy (upd (upd (upd (upd (fun _ => 0) 1 2) 3 1) 4 10) 5 1) (fun _ => 0) 0 0 80) (upd (upd (upd (upd (fun _ => 0) 1 2) 3 1) 4 10) 5 1) 0 0 80)))] := hD
  refine lv_aload_n hx hb dX8_far_11 rfl (lv_at hl 0 rfl) ?_
  refine va_get (D := (dC, dI)) (ci := 6) (v := .int 1) (C := RX8) (T := TX8) (N := 33) hx hb hts iX8 hown hK hP 0 rfl rfl 24 (by decide) (hts (.fieldLink RX8 184 "NeighboursMarkModel" "restMany" "I") (by decide +kernel)) (fun _ h9 => h9) rfl dX8_far_12 ?_
  refine lv_if_ne (tgt := 23) hx hb dX8_far_15 (by decide) (fun _ => ?_) (fun c0 => absurd c0 (by decide))
  refine lv_aload_n hx hb dX8_far_23 rfl (lv_at hl 0 rfl) ?_
  refine va_get (D := (dC, dI)) (ci := 6) (v := .int 0) (C := RX8) (T := TX8) (N := 33) hx hb hts iX8 hown hK hP 0 rfl rfl 27 (by decide) (hts (.fieldLink RX8 187 "NeighboursMarkModel" "mostAll" "I") (by decide +kernel)) (fun _ h9 => h9) rfl dX8_far_24 ?_
  refine lv_aload_n hx hb dX8_far_27 rfl (lv_at hl 0 rfl) ?_
  refine va_get (D := (dC, dI)) (ci := 6) (v := .int 0) (C := RX8) (T := TX8) (N := 33) hx hb hts iX8 hown hK hP 0 rfl rfl 26 (by decide) (hts (.fieldLink RX8 198 "NeighboursMarkModel" "restMost" "I") (by decide +kernel)) (fun _ h9 => h9) rfl dX8_far_28 ?_
  refine lv_isub hx hb dX8_far_31 ?_
  refine lv_topi (fun x5 ex5 => ?_)
  have ex5 : 0 = x5 := (ex5.trans (by decide)).symm
  subst ex5
  exact vx_iret (u := ()) hx hb hr hlocks hK hP hD hS [] rfl (by decide) rfl dX8_far_32
theorem zz_m_byLaw_0 (a : Int32) (h0 : a < (0 : Int32)) : ((-2) : Int32) = f_byLaw a := by
  have e0 : ((-2) : Int32).toInt = -2 := by decide
  have e1 : (0 : Int32).toInt = 0 := by decide
  have e2 : (6 : Int32).toInt = 6 := by decide
  have e3 : (32 : Int32).toInt = 32 := by decide
  unfold f_byLaw
  (repeat' split) <;> first | rfl | (exfalso; simp only [Int32.lt_iff_toInt_lt, Int32.le_iff_toInt_le, ← Int32.toInt_inj, e0, e1, e2, e3] at * <;> omega)
theorem zz_m_byLaw_1 (a : Int32) (h0 : ¬ a < (0 : Int32)) (h1 : a ≤ (6 : Int32)) : (0 : Int32) = f_byLaw a := by
  have e0 : ((-2) : Int32).toInt = -2 := by decide
  have e1 : (0 : Int32).toInt = 0 := by decide
  have e2 : (6 : Int32).toInt = 6 := by decide
  have e3 : (32 : Int32).toInt = 32 := by decide
  unfold f_byLaw
  (repeat' split) <;> first | rfl | (exfalso; simp only [Int32.lt_iff_toInt_lt, Int32.le_iff_toInt_le, ← Int32.toInt_inj, e0, e1, e2, e3] at * <;> omega)
theorem zz_m_byLaw_2 (a : Int32) (h0 : ¬ a < (0 : Int32)) (h1 : ¬ a ≤ (6 : Int32)) : ((-2) : Int32) = f_byLaw a := by
  have e0 : ((-2) : Int32).toInt = -2 := by decide
  have e1 : (0 : Int32).toInt = 0 := by decide
  have e2 : (6 : Int32).toInt = 6 := by decide
  have e3 : (32 : Int32).toInt = 32 := by decide
  unfold f_byLaw
  (repeat' split) <;> first | rfl | (exfalso; simp only [Int32.lt_iff_toInt_lt, Int32.le_iff_toInt_le, ← Int32.toInt_inj, e0, e1, e2, e3] at * <;> omega)
set_option maxHeartbeats 4000000 in
set_option maxRecDepth 100000 in
theorem m_byLaw (l : Launch) (dC : Nat → ClassId) (dI : Nat → Nat → Nat) (cI cC cZ : ClassId) (sz : Nat) (h0 r_refused r_now r_then r_before r_asIs r_tape r_begins r_kinds r_field r_willTeach r_isBack r_told r_bestSeats r_firstSeats r_restLearn r_marksNow r_row : Nat) (a : Int32) : Met l yX8_byLaw wsX8_byLaw ({ frames := 2, cells := 0, slots := 0, locals := 49 }) (va_Pc [.ref h0, .int a] (vx_B (dC, dI) (vx_T cI cC cZ) sz [(h0, .inr (6, [.ref r_refused, .ref r_now, .ref r_then, .ref r_before, .ref r_asIs, .int 0, .ref r_tape, .int 0, .int 0, .int 0, .ref r_begins, .ref r_kinds, .int 0, .ref r_field, .ref r_willTeach, .ref r_isBack, .ref r_told, .ref r_bestSeats, .ref r_firstSeats, .int 0, .int 0, .int 0, .int 0, .int 0, .int 0, .int 0, .int 0, .int 0, .ref r_restLearn, .ref r_marksNow, .ref r_row, .int 0, .int 0])), (r_refused, .inl (cI, 7, .inl (fun _ => 0))), (r_now, .inl (cI, 80, .inl (upd (upd (upd (upd (fun _ => 0) 1 2) 3 1) 4 10) 5 1))), (r_before, .inl (cI, 80, .inl (fun _ => 0)))])) (va_Qi (fun (r : Int32) (_ : Unit) => r = f_byLaw a) (vx_C (dC, dI) (vx_T cI cC cZ) (va_A [(h0, .inr (6, [.ref r_refused, .ref r_now, .ref r_then, .ref r_before, .ref r_asIs, .int 0, .ref r_tape, .int 0, .int 0, .int 0, .ref r_begins, .ref r_kinds, .int 0, .ref r_field, .ref r_willTeach, .ref r_isBack, .ref r_told, .ref r_bestSeats, .ref r_firstSeats, .int 0, .int 0, .int 0, .int 0, .int 0, .int 0, .int 0, .int 0, .int 0, .ref r_restLearn, .ref r_marksNow, .ref r_row, .int 0, .int 0])), (r_refused, .inl (cI, 7, .inl (fun _ => 0))), (r_now, .inl (cI, 80, .inl (upd (upd (upd (upd (fun _ => 0) 1 2) 3 1) 4 10) 5 1))), (r_before, .inl (cI, 80, .inl (fun _ => 0)))] sz) (fun (u : Unit) => [])) (va_A [(h0, .inr (6, [.ref r_refused, .ref r_now, .ref r_then, .ref r_before, .ref r_asIs, .int 0, .ref r_tape, .int 0, .int 0, .int 0, .ref r_begins, .ref r_kinds, .int 0, .ref r_field, .ref r_willTeach, .ref r_isBack, .ref r_told, .ref r_bestSeats, .ref r_firstSeats, .int 0, .int 0, .int 0, .int 0, .int 0, .int 0, .int 0, .int 0, .int 0, .ref r_restLearn, .ref r_marksNow, .ref r_row, .int 0, .int 0])), (r_refused, .inl (cI, 7, .inl (fun _ => 0))), (r_now, .inl (cI, 80, .inl (upd (upd (upd (upd (fun _ => 0) 1 2) 3 1) 4 10) 5 1))), (r_before, .inl (cI, 80, .inl (fun _ => 0)))] sz)) 0 0 (va_A [(h0, .inr (6, [.ref r_refused, .ref r_now, .ref r_then, .ref r_before, .ref r_asIs, .int 0, .ref r_tape, .int 0, .int 0, .int 0, .ref r_begins, .ref r_kinds, .int 0, .ref r_field, .ref r_willTeach, .ref r_isBack, .ref r_told, .ref r_bestSeats, .ref r_firstSeats, .int 0, .int 0, .int 0, .int 0, .int 0, .int 0, .int 0, .int 0, .int 0, .ref r_restLearn, .ref r_marksNow, .ref r_row, .int 0, .int 0])), (r_refused, .inl (cI, 7, .inl (fun _ => 0))), (r_now, .inl (cI, 80, .inl (upd (upd (upd (upd (fun _ => 0) 1 2) 3 1) 4 10) 5 1))), (r_before, .inl (cI, 80, .inl (fun _ => 0)))] sz) := by
  refine Met.ofW (cc := cX8_byLaw) (maxL := 2) (ret := (some .int)) (by decide) rfl ?_
  intro p e s m args below meth c s₁ B hml hv
  obtain ⟨rfl, hsz, hP, hK, hD0⟩ := hv
  have hx := B.exec
  have hb := B.bytes
  have hr := B.returns
  have hts := atoms_spec (ws := wsX8_byLaw) B.pre
  have hown : s.vm.findClass RX8 = some m.cls := findClass_of_methodNamed B.named
  have hlocks := B.notSynchronized
  subst hsz
  have hD := hD0.self (sz := s.heap.size)
  generalize hAe : va_A [(h0, .inr (6, [.ref r_refused, .ref r_now, .ref r_then, .ref r_before, .ref r_asIs, .int 0, .ref r_tape, .int 0, .int 0, .int 0, .ref r_begins, .ref r_kinds, .int 0, .ref r_field, .ref r_willTeach, .ref r_isBack, .ref r_told, .ref r_bestSeats, .ref r_firstSeats, .int 0, .int 0, .int 0, .int 0, .int 0, .int 0, .int 0, .int 0, .int 0, .ref r_restLearn, .ref r_marksNow, .ref r_row, .int 0, .int 0])), (r_refused, .inl (cI, 7, .inl (fun _ => 0))), (r_now, .inl (cI, 80, .inl (upd (upd (upd (upd (fun _ => 0) 1 2) 3 1) 4 10) 5 1))), (r_before, .inl (cI, 80, .inl (fun _ => 0)))] s.heap.size = A at hD ⊢
  have hA : ∀ q : Nat, s.heap.size ≤ q → A q := fun q h => by rw [← hAe]; exact Or.inr h
  have hS : va_S A s.heap s.heap [] := va_S.rf
  have hl := lv_entry ([.ref h0, .int a]) (n := 2) (Nat.le_of_ble_eq_true rfl)
  rw [lg_entry_eq]
  generalize (lg_sl ([.ref h0, .int a]) ++ List.replicate (2 - (lg_sl ([.ref h0, .int a])).length) Slot.unset).toArray = ls at hl ⊢
  have hl : lv_has ls 2 [(0, .ref h0), (1, .int a)] := hl
  have iX8 : ∀ w ∈ u_ws RX8 TX8 33, w ∈ wsX8_byLaw := by decide +kernel
  refine lv_iload_n hx hb dX8_byLaw_0 rfl (lv_at hl 1 rfl) ?_
  refine lv_if_lt (tgt := 10) hx hb dX8_byLaw_1 (by decide) (fun c1 => ?_) (fun c1 => ?_)
  · skip
    refine lv_aload_n hx hb dX8_byLaw_10 rfl (lv_at hl 0 rfl) ?_
    refine lv_bipush (v := (-2)) hx hb dX8_byLaw_11 (by decide) ?_
    have hPc := hP.sub (ws' := [(h0, .inr (6, [.ref r_refused, .ref r_now, .ref r_then, .ref r_before, .ref r_asIs, .int 0, .ref r_tape, .int 0, .int 0, .int 0, .ref r_begins, .ref r_kinds, .int 0, .ref r_field, .ref r_willTeach, .ref r_isBack, .ref r_told, .ref r_bestSeats, .ref r_firstSeats, .int 0, .int 0, .int 0, .int 0, .int 0, .int 0, .int 0, .int 0, .int 0, .ref r_restLearn, .ref r_marksNow, .ref r_row, .int 0, .int 0])), (r_refused, .inl (cI, 7, .inl (fun _ => 0)))]) [0, 1] rfl
    have hDc := hD.sub (ws' := [(h0, .inr (6, [.ref r_refused, .ref r_now, .ref r_then, .ref r_before, .ref r_asIs, .int 0, .ref r_tape, .int 0, .int 0, .int 0, .ref r_begins, .ref r_kinds, .int 0, .ref r_field, .ref r_willTeach, .ref r_isBack, .ref r_told, .ref r_bestSeats, .ref r_firstSeats, .int 0, .int 0, .int 0, .int 0, .int 0, .int 0, .int 0, .int 0, .int 0, .ref r_restLearn, .ref r_marksNow, .ref r_row, .int 0, .int 0])), (r_refused, .inl (cI, 7, .inl (fun _ => 0)))]) [0, 1] (by decide) rfl
    refine vx_calli (wc := [(h0, .inr (6, [.ref r_refused, .ref r_now, .ref r_then, .ref r_before, .ref r_asIs, .int 0, .ref r_tape, .int 0, .int 0, .int 0, .ref r_begins, .ref r_kinds, .int 0, .ref r_field, .ref r_willTeach, .ref r_isBack, .ref r_told, .ref r_bestSeats, .ref r_firstSeats, .int 0, .int 0, .int 0, .int 0, .int 0, .int 0, .int 0, .int 0, .int 0, .ref r_restLearn, .ref r_marksNow, .ref r_row, .int 0, .int 0])), (r_refused, .inl (cI, 7, .inl (fun _ => 0)))]) (wr := [(r_now, .inl (cI, 80, .inl (upd (upd (upd (upd (fun _ => 0) 1 2) 3 1) 4 10) 5 1))), (r_before, .inl (cI, 80, .inl (fun _ => 0)))]) hP hD hS hA [0, 1] [2, 3] rfl rfl (by decide) (by decide) (va_runV (As := [.int (-2)]) (rest := []) ⟨hx, hb, hml, hown, hts⟩ (r_no2 l dC dI cI cC cZ _ h0 r_refused r_now r_then r_before r_asIs r_tape r_begins r_kinds r_field r_willTeach r_isBack r_told r_bestSeats r_firstSeats r_restLearn r_marksNow r_row 0 0 0 0 0 0 0 0 0 0 0 0 0 0 0 0 0 (fun _ => 0) rfl) (cwV 1 hts gX8_byLaw_X8_no rfl rfl rfl (by decide +kernel) ⟨Nat.le_of_ble_eq_true rfl, Nat.le_of_ble_eq_true rfl⟩) ⟨vx_blind, va_recv hK hPc (ci := 6) (q0 := 0) rfl rfl, vx_pre hK hPc hDc⟩ rfl rfl hl.1 rfl (lv_room (Nat.le_of_ble_eq_true rfl)) dX8_byLaw_13 ⟨Nat.le_of_ble_eq_true rfl, Nat.le_of_ble_eq_true rfl⟩) (fun r3 u2 H locs hw4 hP hD hS => ?_)
    have hP : va_P (dC, dI) vwCl [(r_now, .inl (cI, 80, .inl (upd (upd (upd (upd (fun _ => 0) 1 2) 3 1) 4 10) 5 1))), (r_before, .inl (cI, 80, .inl (fun _ => 0))), (h0, .inr (6, [.ref r_refused, .ref r_now, .ref r_then, .ref r_before, .ref r_asIs, .int 0, .ref r_tape, .int 0, .int 0, .int 0, .ref r_begins, .ref r_kinds, .int 0, .ref r_field, .ref r_willTeach, .ref r_isBack, .ref r_told, .ref r_bestSeats, .ref r_firstSeats, .int 0, .int 0, .int 0, .int 0, .int 0, .int 0, .int 0, .int 0, .int 0, .ref r_restLearn, .ref r_marksNow, .ref r_row, .int 0, .int 0])), (r_refused, .inl (cI, 7, .inl (upd (fun _ => 0) 2 1)))] H := hP
    have hD : va_D A [(r_now, .inl (cI, 80, .inl (upd (upd (upd (upd (fun _ => 0) 1 2) 3 1) 4 10) 5 1))), (r_before, .inl (cI, 80, .inl (fun _ => 0))), (h0, .inr (6, [.ref r_refused, .ref r_now, .ref r_then, .ref r_before, .ref r_asIs, .int 0, .ref r_tape, .int 0, .int 0, .int 0, .ref r_begins, .ref r_kinds, .int 0, .ref r_field, .ref r_willTeach, .ref r_isBack, .ref r_told, .ref r_bestSeats, .ref r_firstSeats, .int 0, .int 0, .int 0, .int 0, .int 0, .int 0, .int 0, .int 0, .int 0, .ref r_restLearn, .ref r_marksNow, .ref r_row, .int 0, .int 0])), (r_refused, .inl (cI, 7, .inl (upd (fun _ => 0) 2 1)))] := hD
    have er3 : (-2) = r3 := Eq.symm hw4
    subst er3
    exact vx_iret (u := ()) hx hb hr hlocks hK hP hD hS [] rfl (by decide) (zz_m_byLaw_0 a c1) dX8_byLaw_16
  · skip
    refine lv_iload_n hx hb dX8_byLaw_4 rfl (lv_at hl 1 rfl) ?_
    refine lv_bipush (v := 6) hx hb dX8_byLaw_5 (by decide) ?_
    refine lv_icmp_le (tgt := 17) hx hb dX8_byLaw_7 (by decide) (fun c5 => ?_) (fun c5 => ?_)
    · skip
      refine lv_aload_n hx hb dX8_byLaw_17 rfl (lv_at hl 0 rfl) ?_
      refine lv_iload_n hx hb dX8_byLaw_18 rfl (lv_at hl 1 rfl) ?_
      refine lv_iconst (v := 0) hx hb dX8_byLaw_19 (by decide) ?_
      have hPc := hP.sub (ws' := [(h0, .inr (6, [.ref r_refused, .ref r_now, .ref r_then, .ref r_before, .ref r_asIs, .int 0, .ref r_tape, .int 0, .int 0, .int 0, .ref r_begins, .ref r_kinds, .int 0, .ref r_field, .ref r_willTeach, .ref r_isBack, .ref r_told, .ref r_bestSeats, .ref r_firstSeats, .int 0, .int 0, .int 0, .int 0, .int 0, .int 0, .int 0, .int 0, .int 0, .ref r_restLearn, .ref r_marksNow, .ref r_row, .int 0, .int 0])), (r_now, .inl (cI, 80, .inl (upd (upd (upd (upd (fun _ => 0) 1 2) 3 1) 4 10) 5 1))), (r_before, .inl (cI, 80, .inl (fun _ => 0)))]) [0, 2, 3] rfl
      have hDc := hD.sub (ws' := [(h0, .inr (6, [.ref r_refused, .ref r_now, .ref r_then, .ref r_before, .ref r_asIs, .int 0, .ref r_tape, .int 0, .int 0, .int 0, .ref r_begins, .ref r_kinds, .int 0, .ref r_field, .ref r_willTeach, .ref r_isBack, .ref r_told, .ref r_bestSeats, .ref r_firstSeats, .int 0, .int 0, .int 0, .int 0, .int 0, .int 0, .int 0, .int 0, .int 0, .ref r_restLearn, .ref r_marksNow, .ref r_row, .int 0, .int 0])), (r_now, .inl (cI, 80, .inl (upd (upd (upd (upd (fun _ => 0) 1 2) 3 1) 4 10) 5 1))), (r_before, .inl (cI, 80, .inl (fun _ => 0)))]) [0, 2, 3] (by decide) rfl
      refine vx_callv (wc := [(h0, .inr (6, [.ref r_refused, .ref r_now, .ref r_then, .ref r_before, .ref r_asIs, .int 0, .ref r_tape, .int 0, .int 0, .int 0, .ref r_begins, .ref r_kinds, .int 0, .ref r_field, .ref r_willTeach, .ref r_isBack, .ref r_told, .ref r_bestSeats, .ref r_firstSeats, .int 0, .int 0, .int 0, .int 0, .int 0, .int 0, .int 0, .int 0, .int 0, .ref r_restLearn, .ref r_marksNow, .ref r_row, .int 0, .int 0])), (r_now, .inl (cI, 80, .inl (upd (upd (upd (upd (fun _ => 0) 1 2) 3 1) 4 10) 5 1))), (r_before, .inl (cI, 80, .inl (fun _ => 0)))]) (wr := [(r_refused, .inl (cI, 7, .inl (fun _ => 0)))]) hP hD hS hA [0, 2, 3] [1] rfl rfl (by decide) (by decide) (va_runV (As := [.int a, .int 0]) (rest := []) ⟨hx, hb, hml, hown, hts⟩ (r_allWays0 l dC dI cI cC cZ _ h0 r_refused r_now r_then r_before r_asIs r_tape r_begins r_kinds r_field r_willTeach r_isBack r_told r_bestSeats r_firstSeats r_restLearn r_marksNow r_row 0 0 0 0 0 0 0 0 0 0 0 0 0 0 0 0 a (upd (upd (upd (upd (fun _ => 0) 1 2) 3 1) 4 10) 5 1) (fun _ => 0) rfl) (cwV 2 hts gX8_byLaw_X8_allWays rfl rfl rfl (by decide +kernel) ⟨Nat.le_of_ble_eq_true rfl, Nat.le_of_ble_eq_true rfl⟩) ⟨vx_blind, va_recv hK hPc (ci := 6) (q0 := 0) rfl rfl, vx_pre hK hPc hDc⟩ rfl rfl hl.1 rfl (lv_room (Nat.le_of_ble_eq_true rfl)) dX8_byLaw_20 ⟨Nat.le_of_ble_eq_true rfl, Nat.le_of_ble_eq_true rfl⟩) (fun u6 H locs hw8 hP hD hS => ?_)
      have hP : va_P (dC, dI) vwCl [(r_refused, .inl (cI, 7, .inl (fun _ => 0))), (h0, .inr (6, [.ref r_refused, .ref r_now, .ref r_then, .ref r_before, .ref r_asIs, .int 0, .ref r_tape, .int 0, .int 0, .int 0, .ref r_begins, .ref r_kinds, .int 0, .ref r_field, .ref r_willTeach, .ref r_isBack, .ref r_told, .ref r_bestSeats, .ref r_firstSeats, .int 0, .int 0, .int 0, .int 0, .int 0, .int 0, .int 0, .int 0, .int 0, .ref r_restLearn, .ref r_marksNow, .ref r_row, .int 0, .int 0])), (r_now, .inl (cI, 80, .inl (va_cpy (va_cpy (upd (upd (upd (upd (fun _ => 0) 1 2) 3 1) 4 10) 5 1) (fun _ => 0) 0 0 80) (upd (upd (upd (upd (fun _ => 0) 1 2) 3 1) 4 10) 5 1) 0 0 80)))] H := hP
      have hD : va_D A [(r_refused, .inl (cI, 7, .inl (fun _ => 0))), (h0, .inr (6, [.ref r_refused, .ref r_now, .ref r_then, .ref r_before, .ref r_asIs, .int 0, .ref r_tape, .int 0, .int 0, .int 0, .ref r_begins, .ref r_kinds, .int 0, .ref r_field, .ref r_willTeach, .ref r_isBack, .ref r_told, .ref r_bestSeats, .ref r_firstSeats, .int 0, .int 0, .int 0, .int 0, .int 0, .int 0, .int 0, .int 0, .int 0, .ref r_restLearn, .ref r_marksNow, .ref r_row, .int 0, .int 0])), (r_now, .inl (cI, 80, .inl (va_cpy (va_cpy (upd (upd (upd (upd (fun _ => 0) 1 2) 3 1) 4 10) 5 1) (fun _ => 0) 0 0 80) (upd (upd (upd (upd (fun _ => 0) 1 2) 3 1) 4 10) 5 1) 0 0 80)))] := hD
      refine lv_aload_n hx hb dX8_byLaw_23 rfl (lv_at hl 0 rfl) ?_
      refine va_get (D := (dC, dI)) (ci := 6) (v := .int 0) (C := RX8) (T := TX8) (N := 33) hx hb hts iX8 hown hK hP 1 rfl rfl 27 (by decide) (hts (.fieldLink RX8 187 "NeighboursMarkModel" "mostAll" "I") (by decide +kernel)) (fun _ h9 => h9) rfl dX8_byLaw_24 ?_
      exact vx_iret (u := ()) hx hb hr hlocks hK hP hD hS [] rfl (by decide) (zz_m_byLaw_1 a c1 c5) dX8_byLaw_27
    · skip
      refine lv_aload_n hx hb dX8_byLaw_10 rfl (lv_at hl 0 rfl) ?_
      refine lv_bipush (v := (-2)) hx hb dX8_byLaw_11 (by decide) ?_
      have hPc := hP.sub (ws' := [(h0, .inr (6, [.ref r_refused, .ref r_now, .ref r_then, .ref r_before, .ref r_asIs, .int 0, .ref r_tape, .int 0, .int 0, .int 0, .ref r_begins, .ref r_kinds, .int 0, .ref r_field, .ref r_willTeach, .ref r_isBack, .ref r_told, .ref r_bestSeats, .ref r_firstSeats, .int 0, .int 0, .int 0, .int 0, .int 0, .int 0, .int 0, .int 0, .int 0, .ref r_restLearn, .ref r_marksNow, .ref r_row, .int 0, .int 0])), (r_refused, .inl (cI, 7, .inl (fun _ => 0)))]) [0, 1] rfl
      have hDc := hD.sub (ws' := [(h0, .inr (6, [.ref r_refused, .ref r_now, .ref r_then, .ref r_before, .ref r_asIs, .int 0, .ref r_tape, .int 0, .int 0, .int 0, .ref r_begins, .ref r_kinds, .int 0, .ref r_field, .ref r_willTeach, .ref r_isBack, .ref r_told, .ref r_bestSeats, .ref r_firstSeats, .int 0, .int 0, .int 0, .int 0, .int 0, .int 0, .int 0, .int 0, .int 0, .ref r_restLearn, .ref r_marksNow, .ref r_row, .int 0, .int 0])), (r_refused, .inl (cI, 7, .inl (fun _ => 0)))]) [0, 1] (by decide) rfl
      refine vx_calli (wc := [(h0, .inr (6, [.ref r_refused, .ref r_now, .ref r_then, .ref r_before, .ref r_asIs, .int 0, .ref r_tape, .int 0, .int 0, .int 0, .ref r_begins, .ref r_kinds, .int 0, .ref r_field, .ref r_willTeach, .ref r_isBack, .ref r_told, .ref r_bestSeats, .ref r_firstSeats, .int 0, .int 0, .int 0, .int 0, .int 0, .int 0, .int 0, .int 0, .int 0, .ref r_restLearn, .ref r_marksNow, .ref r_row, .int 0, .int 0])), (r_refused, .inl (cI, 7, .inl (fun _ => 0)))]) (wr := [(r_now, .inl (cI, 80, .inl (upd (upd (upd (upd (fun _ => 0) 1 2) 3 1) 4 10) 5 1))), (r_before, .inl (cI, 80, .inl (fun _ => 0)))]) hP hD hS hA [0, 1] [2, 3] rfl rfl (by decide) (by decide) (va_runV (As := [.int (-2)]) (rest := []) ⟨hx, hb, hml, hown, hts⟩ (r_no2 l dC dI cI cC cZ _ h0 r_refused r_now r_then r_before r_asIs r_tape r_begins r_kinds r_field r_willTeach r_isBack r_told r_bestSeats r_firstSeats r_restLearn r_marksNow r_row 0 0 0 0 0 0 0 0 0 0 0 0 0 0 0 0 0 (fun _ => 0) rfl) (cwV 1 hts gX8_byLaw_X8_no rfl rfl rfl (by decide +kernel) ⟨Nat.le_of_ble_eq_true rfl, Nat.le_of_ble_eq_true rfl⟩) ⟨vx_blind, va_recv hK hPc (ci := 6) (q0 := 0) rfl rfl, vx_pre hK hPc hDc⟩ rfl rfl hl.1 rfl (lv_room (Nat.le_of_ble_eq_true rfl)) dX8_byLaw_13 ⟨Nat.le_of_ble_eq_true rfl, Nat.le_of_ble_eq_true rfl⟩) (fun r10 u9 H locs hw11 hP hD hS => ?_)
      have hP : va_P (dC, dI) vwCl [(r_now, .inl (cI, 80, .inl (upd (upd (upd (upd (fun _ => 0) 1 2) 3 1) 4 10) 5 1))), (r_before, .inl (cI, 80, .inl (fun _ => 0))), (h0, .inr (6, [.ref r_refused, .ref r_now, .ref r_then, .ref r_before, .ref r_asIs, .int 0, .ref r_tape, .int 0, .int 0, .int 0, .ref r_begins, .ref r_kinds, .int 0, .ref r_field, .ref r_willTeach, .ref r_isBack, .ref r_told, .ref r_bestSeats, .ref r_firstSeats, .int 0, .int 0, .int 0, .int 0, .int 0, .int 0, .int 0, .int 0, .int 0, .ref r_restLearn, .ref r_marksNow, .ref r_row, .int 0, .int 0])), (r_refused, .inl (cI, 7, .inl (upd (fun _ => 0) 2 1)))] H := hP
      have hD : va_D A [(r_now, .inl (cI, 80, .inl (upd (upd (upd (upd (fun _ => 0) 1 2) 3 1) 4 10) 5 1))), (r_before, .inl (cI, 80, .inl (fun _ => 0))), (h0, .inr (6, [.ref r_refused, .ref r_now, .ref r_then, .ref r_before, .ref r_asIs, .int 0, .ref r_tape, .int 0, .int 0, .int 0, .ref r_begins, .ref r_kinds, .int 0, .ref r_field, .ref r_willTeach, .ref r_isBack, .ref r_told, .ref r_bestSeats, .ref r_firstSeats, .int 0, .int 0, .int 0, .int 0, .int 0, .int 0, .int 0, .int 0, .int 0, .ref r_restLearn, .ref r_marksNow, .ref r_row, .int 0, .int 0])), (r_refused, .inl (cI, 7, .inl (upd (fun _ => 0) 2 1)))] := hD
      have er10 : (-2) = r10 := Eq.symm hw11
      subst er10
      exact vx_iret (u := ()) hx hb hr hlocks hK hP hD hS [] rfl (by decide) (zz_m_byLaw_2 a c1 c5) dX8_byLaw_16
set_option maxHeartbeats 4000000 in
set_option maxRecDepth 100000 in
theorem m_hour (l : Launch) (dC : Nat → ClassId) (dI : Nat → Nat → Nat) (cI cC cZ : ClassId) (sz : Nat) (h0 r_refused r_now r_then r_before r_asIs r_tape r_begins r_kinds r_field r_willTeach r_isBack r_told r_bestSeats r_firstSeats r_restLearn r_marksNow r_row : Nat) (a b : Int32) : Met l yX8_hour wsX8_hour ({ frames := 1, cells := 0, slots := 0, locals := 21 }) (va_Pc [.ref h0, .int a, .int b] (vx_B (dC, dI) (vx_T cI cC cZ) sz [(h0, .inr (6, [.ref r_refused, .ref r_now, .ref r_then, .ref r_before, .ref r_asIs, .int 0, .ref r_tape, .int 0, .int 0, .int 0, .ref r_begins, .ref r_kinds, .int 0, .ref r_field, .ref r_willTeach, .ref r_isBack, .ref r_told, .ref r_bestSeats, .ref r_firstSeats, .int 0, .int 0, .int 0, .int 0, .int 0, .int 0, .int 0, .int 0, .int 0, .ref r_restLearn, .ref r_marksNow, .ref r_row, .int 0, .int 0])), (r_refused, .inl (cI, 7, .inl (fun _ => 0))), (r_now, .inl (cI, 80, .inl (upd (upd (upd (upd (fun _ => 0) 1 2) 3 1) 4 10) 5 1)))])) (va_Qi (fun (r : Int32) (_ : Unit) => r = (-1)) (vx_C (dC, dI) (vx_T cI cC cZ) (va_A [(h0, .inr (6, [.ref r_refused, .ref r_now, .ref r_then, .ref r_before, .ref r_asIs, .int 0, .ref r_tape, .int 0, .int 0, .int 0, .ref r_begins, .ref r_kinds, .int 0, .ref r_field, .ref r_willTeach, .ref r_isBack, .ref r_told, .ref r_bestSeats, .ref r_firstSeats, .int 0, .int 0, .int 0, .int 0, .int 0, .int 0, .int 0, .int 0, .int 0, .ref r_restLearn, .ref r_marksNow, .ref r_row, .int 0, .int 0])), (r_refused, .inl (cI, 7, .inl (fun _ => 0))), (r_now, .inl (cI, 80, .inl (upd (upd (upd (upd (fun _ => 0) 1 2) 3 1) 4 10) 5 1)))] sz) (fun (u : Unit) => [])) (va_A [(h0, .inr (6, [.ref r_refused, .ref r_now, .ref r_then, .ref r_before, .ref r_asIs, .int 0, .ref r_tape, .int 0, .int 0, .int 0, .ref r_begins, .ref r_kinds, .int 0, .ref r_field, .ref r_willTeach, .ref r_isBack, .ref r_told, .ref r_bestSeats, .ref r_firstSeats, .int 0, .int 0, .int 0, .int 0, .int 0, .int 0, .int 0, .int 0, .int 0, .ref r_restLearn, .ref r_marksNow, .ref r_row, .int 0, .int 0])), (r_refused, .inl (cI, 7, .inl (fun _ => 0))), (r_now, .inl (cI, 80, .inl (upd (upd (upd (upd (fun _ => 0) 1 2) 3 1) 4 10) 5 1)))] sz)) 0 0 (va_A [(h0, .inr (6, [.ref r_refused, .ref r_now, .ref r_then, .ref r_before, .ref r_asIs, .int 0, .ref r_tape, .int 0, .int 0, .int 0, .ref r_begins, .ref r_kinds, .int 0, .ref r_field, .ref r_willTeach, .ref r_isBack, .ref r_told, .ref r_bestSeats, .ref r_firstSeats, .int 0, .int 0, .int 0, .int 0, .int 0, .int 0, .int 0, .int 0, .int 0, .ref r_restLearn, .ref r_marksNow, .ref r_row, .int 0, .int 0])), (r_refused, .inl (cI, 7, .inl (fun _ => 0))), (r_now, .inl (cI, 80, .inl (upd (upd (upd (upd (fun _ => 0) 1 2) 3 1) 4 10) 5 1)))] sz) := by
  refine Met.ofW (cc := cX8_hour) (maxL := 7) (ret := (some .int)) (by decide) rfl ?_
  intro p e s m args below meth c s₁ B hml hv
  obtain ⟨rfl, hsz, hP, hK, hD0⟩ := hv
  have hx := B.exec
  have hb := B.bytes
  have hr := B.returns
  have hts := atoms_spec (ws := wsX8_hour) B.pre
  have hown : s.vm.findClass RX8 = some m.cls := findClass_of_methodNamed B.named
  have hlocks := B.notSynchronized
  subst hsz
  have hD := hD0.self (sz := s.heap.size)
  generalize hAe : va_A [(h0, .inr (6, [.ref r_refused, .ref r_now, .ref r_then, .ref r_before, .ref r_asIs, .int 0, .ref r_tape, .int 0, .int 0, .int 0, .ref r_begins, .ref r_kinds, .int 0, .ref r_field, .ref r_willTeach, .ref r_isBack, .ref r_told, .ref r_bestSeats, .ref r_firstSeats, .int 0, .int 0, .int 0, .int 0, .int 0, .int 0, .int 0, .int 0, .int 0, .ref r_restLearn, .ref r_marksNow, .ref r_row, .int 0, .int 0])), (r_refused, .inl (cI, 7, .inl (fun _ => 0))), (r_now, .inl (cI, 80, .inl (upd (upd (upd (upd (fun _ => 0) 1 2) 3 1) 4 10) 5 1)))] s.heap.size = A at hD ⊢
  have hA : ∀ q : Nat, s.heap.size ≤ q → A q := fun q h => by rw [← hAe]; exact Or.inr h
  have hS : va_S A s.heap s.heap [] := va_S.rf
  have hl := lv_entry ([.ref h0, .int a, .int b]) (n := 7) (Nat.le_of_ble_eq_true rfl)
  rw [lg_entry_eq]
  generalize (lg_sl ([.ref h0, .int a, .int b]) ++ List.replicate (7 - (lg_sl ([.ref h0, .int a, .int b])).length) Slot.unset).toArray = ls at hl ⊢
  have hl : lv_has ls 7 [(0, .ref h0), (1, .int a), (2, .int b)] := hl
  refine lv_aload_n hx hb dX8_hour_0 rfl (lv_at hl 0 rfl) ?_
  refine lv_iload_n hx hb dX8_hour_1 rfl (lv_at hl 1 rfl) ?_
  have hPc := hP.sub (ws' := [(h0, .inr (6, [.ref r_refused, .ref r_now, .ref r_then, .ref r_before, .ref r_asIs, .int 0, .ref r_tape, .int 0, .int 0, .int 0, .ref r_begins, .ref r_kinds, .int 0, .ref r_field, .ref r_willTeach, .ref r_isBack, .ref r_told, .ref r_bestSeats, .ref r_firstSeats, .int 0, .int 0, .int 0, .int 0, .int 0, .int 0, .int 0, .int 0, .int 0, .ref r_restLearn, .ref r_marksNow, .ref r_row, .int 0, .int 0])), (r_now, .inl (cI, 80, .inl (upd (upd (upd (upd (fun _ => 0) 1 2) 3 1) 4 10) 5 1)))]) [0, 2] rfl
  have hDc := hD.sub (ws' := [(h0, .inr (6, [.ref r_refused, .ref r_now, .ref r_then, .ref r_before, .ref r_asIs, .int 0, .ref r_tape, .int 0, .int 0, .int 0, .ref r_begins, .ref r_kinds, .int 0, .ref r_field, .ref r_willTeach, .ref r_isBack, .ref r_told, .ref r_bestSeats, .ref r_firstSeats, .int 0, .int 0, .int 0, .int 0, .int 0, .int 0, .int 0, .int 0, .int 0, .ref r_restLearn, .ref r_marksNow, .ref r_row, .int 0, .int 0])), (r_now, .inl (cI, 80, .inl (upd (upd (upd (upd (fun _ => 0) 1 2) 3 1) 4 10) 5 1)))]) [0, 2] (by decide) rfl
  refine vx_calli (wc := [(h0, .inr (6, [.ref r_refused, .ref r_now, .ref r_then, .ref r_before, .ref r_asIs, .int 0, .ref r_tape, .int 0, .int 0, .int 0, .ref r_begins, .ref r_kinds, .int 0, .ref r_field, .ref r_willTeach, .ref r_isBack, .ref r_told, .ref r_bestSeats, .ref r_firstSeats, .int 0, .int 0, .int 0, .int 0, .int 0, .int 0, .int 0, .int 0, .int 0, .ref r_restLearn, .ref r_marksNow, .ref r_row, .int 0, .int 0])), (r_now, .inl (cI, 80, .inl (upd (upd (upd (upd (fun _ => 0) 1 2) 3 1) 4 10) 5 1)))]) (wr := [(r_refused, .inl (cI, 7, .inl (fun _ => 0)))]) hP hD hS hA [0, 2] [1] rfl rfl (by decide) (by decide) (va_runV (As := [.int a]) (rest := []) ⟨hx, hb, hml, hown, hts⟩ (r_isNobody l dC dI cI cC cZ _ h0 r_refused r_now r_then r_before r_asIs r_tape r_begins r_kinds r_field r_willTeach r_isBack r_told r_bestSeats r_firstSeats r_restLearn r_marksNow r_row 0 0 0 0 0 0 0 0 0 0 0 0 0 0 0 0 a (upd (upd (upd (upd (fun _ => 0) 1 2) 3 1) 4 10) 5 1) rfl) (cwV 1 hts gX8_hour_X8_isNobody rfl rfl rfl (by decide +kernel) ⟨Nat.le_of_ble_eq_true rfl, Nat.le_of_ble_eq_true rfl⟩) ⟨vx_blind, va_recv hK hPc (ci := 6) (q0 := 0) rfl rfl, vx_pre hK hPc hDc⟩ rfl rfl hl.1 rfl (lv_room (Nat.le_of_ble_eq_true rfl)) dX8_hour_2 ⟨Nat.le_of_ble_eq_true rfl, Nat.le_of_ble_eq_true rfl⟩) (fun r2 u1 H locs hw3 hP hD hS => ?_)
  have hP : va_P (dC, dI) vwCl [(r_refused, .inl (cI, 7, .inl (fun _ => 0))), (h0, .inr (6, [.ref r_refused, .ref r_now, .ref r_then, .ref r_before, .ref r_asIs, .int 0, .ref r_tape, .int 0, .int 0, .int 0, .ref r_begins, .ref r_kinds, .int 0, .ref r_field, .ref r_willTeach, .ref r_isBack, .ref r_told, .ref r_bestSeats, .ref r_firstSeats, .int 0, .int 0, .int 0, .int 0, .int 0, .int 0, .int 0, .int 0, .int 0, .ref r_restLearn, .ref r_marksNow, .ref r_row, .int 0, .int 0])), (r_now, .inl (cI, 80, .inl (upd (upd (upd (upd (fun _ => 0) 1 2) 3 1) 4 10) 5 1)))] H := hP
  have hD : va_D A [(r_refused, .inl (cI, 7, .inl (fun _ => 0))), (h0, .inr (6, [.ref r_refused, .ref r_now, .ref r_then, .ref r_before, .ref r_asIs, .int 0, .ref r_tape, .int 0, .int 0, .int 0, .ref r_begins, .ref r_kinds, .int 0, .ref r_field, .ref r_willTeach, .ref r_isBack, .ref r_told, .ref r_bestSeats, .ref r_firstSeats, .int 0, .int 0, .int 0, .int 0, .int 0, .int 0, .int 0, .int 0, .int 0, .ref r_restLearn, .ref r_marksNow, .ref r_row, .int 0, .int 0])), (r_now, .inl (cI, 80, .inl (upd (upd (upd (upd (fun _ => 0) 1 2) 3 1) 4 10) 5 1)))] := hD
  have er2 : 1 = r2 := Eq.symm hw3
  subst er2
  refine lv_if_eq (tgt := 14) hx hb dX8_hour_5 (by decide) (fun c0 => absurd c0 (by decide)) (fun _ => ?_)
  refine lv_aload_n hx hb dX8_hour_8 rfl (lv_at hl 0 rfl) ?_
  refine lv_iconst (v := (-1)) hx hb dX8_hour_9 (by decide) ?_
  have hPc := hP.sub (ws' := [(h0, .inr (6, [.ref r_refused, .ref r_now, .ref r_then, .ref r_before, .ref r_asIs, .int 0, .ref r_tape, .int 0, .int 0, .int 0, .ref r_begins, .ref r_kinds, .int 0, .ref r_field, .ref r_willTeach, .ref r_isBack, .ref r_told, .ref r_bestSeats, .ref r_firstSeats, .int 0, .int 0, .int 0, .int 0, .int 0, .int 0, .int 0, .int 0, .int 0, .ref r_restLearn, .ref r_marksNow, .ref r_row, .int 0, .int 0])), (r_refused, .inl (cI, 7, .inl (fun _ => 0)))]) [1, 0] rfl
  have hDc := hD.sub (ws' := [(h0, .inr (6, [.ref r_refused, .ref r_now, .ref r_then, .ref r_before, .ref r_asIs, .int 0, .ref r_tape, .int 0, .int 0, .int 0, .ref r_begins, .ref r_kinds, .int 0, .ref r_field, .ref r_willTeach, .ref r_isBack, .ref r_told, .ref r_bestSeats, .ref r_firstSeats, .int 0, .int 0, .int 0, .int 0, .int 0, .int 0, .int 0, .int 0, .int 0, .ref r_restLearn, .ref r_marksNow, .ref r_row, .int 0, .int 0])), (r_refused, .inl (cI, 7, .inl (fun _ => 0)))]) [1, 0] (by decide) rfl
  refine vx_calli (wc := [(h0, .inr (6, [.ref r_refused, .ref r_now, .ref r_then, .ref r_before, .ref r_asIs, .int 0, .ref r_tape, .int 0, .int 0, .int 0, .ref r_begins, .ref r_kinds, .int 0, .ref r_field, .ref r_willTeach, .ref r_isBack, .ref r_told, .ref r_bestSeats, .ref r_firstSeats, .int 0, .int 0, .int 0, .int 0, .int 0, .int 0, .int 0, .int 0, .int 0, .ref r_restLearn, .ref r_marksNow, .ref r_row, .int 0, .int 0])), (r_refused, .inl (cI, 7, .inl (fun _ => 0)))]) (wr := [(r_now, .inl (cI, 80, .inl (upd (upd (upd (upd (fun _ => 0) 1 2) 3 1) 4 10) 5 1)))]) hP hD hS hA [1, 0] [2] rfl rfl (by decide) (by decide) (va_runV (As := [.int (-1)]) (rest := []) ⟨hx, hb, hml, hown, hts⟩ (r_no1 l dC dI cI cC cZ _ h0 r_refused r_now r_then r_before r_asIs r_tape r_begins r_kinds r_field r_willTeach r_isBack r_told r_bestSeats r_firstSeats r_restLearn r_marksNow r_row 0 0 0 0 0 0 0 0 0 0 0 0 0 0 0 0 0 (fun _ => 0) rfl) (cwV 1 hts gX8_hour_X8_no rfl rfl rfl (by decide +kernel) ⟨Nat.le_of_ble_eq_true rfl, Nat.le_of_ble_eq_true rfl⟩) ⟨vx_blind, va_recv hK hPc (ci := 6) (q0 := 0) rfl rfl, vx_pre hK hPc hDc⟩ rfl rfl hl.1 rfl (lv_room (Nat.le_of_ble_eq_true rfl)) dX8_hour_10 ⟨Nat.le_of_ble_eq_true rfl, Nat.le_of_ble_eq_true rfl⟩) (fun r5 u4 H locs hw6 hP hD hS => ?_)
  have hP : va_P (dC, dI) vwCl [(r_now, .inl (cI, 80, .inl (upd (upd (upd (upd (fun _ => 0) 1 2) 3 1) 4 10) 5 1))), (h0, .inr (6, [.ref r_refused, .ref r_now, .ref r_then, .ref r_before, .ref r_asIs, .int 0, .ref r_tape, .int 0, .int 0, .int 0, .ref r_begins, .ref r_kinds, .int 0, .ref r_field, .ref r_willTeach, .ref r_isBack, .ref r_told, .ref r_bestSeats, .ref r_firstSeats, .int 0, .int 0, .int 0, .int 0, .int 0, .int 0, .int 0, .int 0, .int 0, .ref r_restLearn, .ref r_marksNow, .ref r_row, .int 0, .int 0])), (r_refused, .inl (cI, 7, .inl (upd (fun _ => 0) 1 1)))] H := hP
  have hD : va_D A [(r_now, .inl (cI, 80, .inl (upd (upd (upd (upd (fun _ => 0) 1 2) 3 1) 4 10) 5 1))), (h0, .inr (6, [.ref r_refused, .ref r_now, .ref r_then, .ref r_before, .ref r_asIs, .int 0, .ref r_tape, .int 0, .int 0, .int 0, .ref r_begins, .ref r_kinds, .int 0, .ref r_field, .ref r_willTeach, .ref r_isBack, .ref r_told, .ref r_bestSeats, .ref r_firstSeats, .int 0, .int 0, .int 0, .int 0, .int 0, .int 0, .int 0, .int 0, .int 0, .ref r_restLearn, .ref r_marksNow, .ref r_row, .int 0, .int 0])), (r_refused, .inl (cI, 7, .inl (upd (fun _ => 0) 1 1)))] := hD
  have er5 : (-1) = r5 := Eq.symm hw6
  subst er5
  exact vx_iret (u := ()) hx hb hr hlocks hK hP hD hS [] rfl (by decide) rfl dX8_hour_13
theorem zz_m_mends_0 (a : Int32) (h0 : a < (0 : Int32)) : ((-1) : Int32) = f_mends a := by
  have e0 : ((-1) : Int32).toInt = -1 := by decide
  have e1 : (0 : Int32).toInt = 0 := by decide
  have e2 : (32 : Int32).toInt = 32 := by decide
  unfold f_mends
  (repeat' split) <;> first | rfl | (exfalso; simp only [Int32.lt_iff_toInt_lt, Int32.le_iff_toInt_le, ← Int32.toInt_inj, e0, e1, e2] at * <;> omega)
theorem zz_m_mends_1 (a : Int32) (h0 : ¬ a < (0 : Int32)) (h1 : a < (1 : Int32)) : a = 0 := by
  have e0 : (0 : Int32).toInt = 0 := by decide
  have e1 : (1 : Int32).toInt = 1 := by decide
  try simp only [Int32.lt_iff_toInt_lt, Int32.le_iff_toInt_le, ← Int32.toInt_inj, e0, e1] at h0
  try simp only [Int32.lt_iff_toInt_lt, Int32.le_iff_toInt_le, ← Int32.toInt_inj, e0, e1] at h1
  simp only [Int32.lt_iff_toInt_lt, Int32.le_iff_toInt_le, ← Int32.toInt_inj, e0, e1]
  omega
theorem zz_m_mends_2 (a : Int32) (h0 : ¬ a < (0 : Int32)) (h1 : ¬ a < (1 : Int32)) : ((-1) : Int32) = f_mends a := by
  have e0 : ((-1) : Int32).toInt = -1 := by decide
  have e1 : (0 : Int32).toInt = 0 := by decide
  have e2 : (1 : Int32).toInt = 1 := by decide
  have e3 : (32 : Int32).toInt = 32 := by decide
  unfold f_mends
  (repeat' split) <;> first | rfl | (exfalso; simp only [Int32.lt_iff_toInt_lt, Int32.le_iff_toInt_le, ← Int32.toInt_inj, e0, e1, e2, e3] at * <;> omega)
set_option maxHeartbeats 4000000 in
set_option maxRecDepth 100000 in
theorem m_mends (l : Launch) (dC : Nat → ClassId) (dI : Nat → Nat → Nat) (cI cC cZ : ClassId) (sz : Nat) (h0 r_refused r_now r_then r_before r_asIs r_tape r_begins r_kinds r_field r_willTeach r_isBack r_told r_bestSeats r_firstSeats r_restLearn r_marksNow r_row : Nat) (a : Int32) : Met l yX8_mends wsX8_mends ({ frames := 2, cells := 0, slots := 0, locals := 47 }) (va_Pc [.ref h0, .int a] (vx_B (dC, dI) (vx_T cI cC cZ) sz [(h0, .inr (6, [.ref r_refused, .ref r_now, .ref r_then, .ref r_before, .ref r_asIs, .int 0, .ref r_tape, .int 0, .int 0, .int 0, .ref r_begins, .ref r_kinds, .int 0, .ref r_field, .ref r_willTeach, .ref r_isBack, .ref r_told, .ref r_bestSeats, .ref r_firstSeats, .int 0, .int 0, .int 0, .int 0, .int 0, .int 0, .int 0, .int 0, .int 0, .ref r_restLearn, .ref r_marksNow, .ref r_row, .int 0, .int 0])), (r_refused, .inl (cI, 7, .inl (fun _ => 0))), (r_now, .inl (cI, 80, .inl (upd (upd (upd (upd (fun _ => 0) 1 2) 3 1) 4 10) 5 1)))])) (va_Qi (fun (r : Int32) (_ : Unit) => r = f_mends a) (vx_C (dC, dI) (vx_T cI cC cZ) (va_A [(h0, .inr (6, [.ref r_refused, .ref r_now, .ref r_then, .ref r_before, .ref r_asIs, .int 0, .ref r_tape, .int 0, .int 0, .int 0, .ref r_begins, .ref r_kinds, .int 0, .ref r_field, .ref r_willTeach, .ref r_isBack, .ref r_told, .ref r_bestSeats, .ref r_firstSeats, .int 0, .int 0, .int 0, .int 0, .int 0, .int 0, .int 0, .int 0, .int 0, .ref r_restLearn, .ref r_marksNow, .ref r_row, .int 0, .int 0])), (r_refused, .inl (cI, 7, .inl (fun _ => 0))), (r_now, .inl (cI, 80, .inl (upd (upd (upd (upd (fun _ => 0) 1 2) 3 1) 4 10) 5 1)))] sz) (fun (u : Unit) => [])) (va_A [(h0, .inr (6, [.ref r_refused, .ref r_now, .ref r_then, .ref r_before, .ref r_asIs, .int 0, .ref r_tape, .int 0, .int 0, .int 0, .ref r_begins, .ref r_kinds, .int 0, .ref r_field, .ref r_willTeach, .ref r_isBack, .ref r_told, .ref r_bestSeats, .ref r_firstSeats, .int 0, .int 0, .int 0, .int 0, .int 0, .int 0, .int 0, .int 0, .int 0, .ref r_restLearn, .ref r_marksNow, .ref r_row, .int 0, .int 0])), (r_refused, .inl (cI, 7, .inl (fun _ => 0))), (r_now, .inl (cI, 80, .inl (upd (upd (upd (upd (fun _ => 0) 1 2) 3 1) 4 10) 5 1)))] sz)) 0 0 (va_A [(h0, .inr (6, [.ref r_refused, .ref r_now, .ref r_then, .ref r_before, .ref r_asIs, .int 0, .ref r_tape, .int 0, .int 0, .int 0, .ref r_begins, .ref r_kinds, .int 0, .ref r_field, .ref r_willTeach, .ref r_isBack, .ref r_told, .ref r_bestSeats, .ref r_firstSeats, .int 0, .int 0, .int 0, .int 0, .int 0, .int 0, .int 0, .int 0, .int 0, .ref r_restLearn, .ref r_marksNow, .ref r_row, .int 0, .int 0])), (r_refused, .inl (cI, 7, .inl (fun _ => 0))), (r_now, .inl (cI, 80, .inl (upd (upd (upd (upd (fun _ => 0) 1 2) 3 1) 4 10) 5 1)))] sz) := by
  refine Met.ofW (cc := cX8_mends) (maxL := 3) (ret := (some .int)) (by decide) rfl ?_
  intro p e s m args below meth c s₁ B hml hv
  obtain ⟨rfl, hsz, hP, hK, hD0⟩ := hv
  have hx := B.exec
  have hb := B.bytes
  have hr := B.returns
  have hts := atoms_spec (ws := wsX8_mends) B.pre
  have hown : s.vm.findClass RX8 = some m.cls := findClass_of_methodNamed B.named
  have hlocks := B.notSynchronized
  subst hsz
  have hD := hD0.self (sz := s.heap.size)
  generalize hAe : va_A [(h0, .inr (6, [.ref r_refused, .ref r_now, .ref r_then, .ref r_before, .ref r_asIs, .int 0, .ref r_tape, .int 0, .int 0, .int 0, .ref r_begins, .ref r_kinds, .int 0, .ref r_field, .ref r_willTeach, .ref r_isBack, .ref r_told, .ref r_bestSeats, .ref r_firstSeats, .int 0, .int 0, .int 0, .int 0, .int 0, .int 0, .int 0, .int 0, .int 0, .ref r_restLearn, .ref r_marksNow, .ref r_row, .int 0, .int 0])), (r_refused, .inl (cI, 7, .inl (fun _ => 0))), (r_now, .inl (cI, 80, .inl (upd (upd (upd (upd (fun _ => 0) 1 2) 3 1) 4 10) 5 1)))] s.heap.size = A at hD ⊢
  have hA : ∀ q : Nat, s.heap.size ≤ q → A q := fun q h => by rw [← hAe]; exact Or.inr h
  have hS : va_S A s.heap s.heap [] := va_S.rf
  have hl := lv_entry ([.ref h0, .int a]) (n := 3) (Nat.le_of_ble_eq_true rfl)
  rw [lg_entry_eq]
  generalize (lg_sl ([.ref h0, .int a]) ++ List.replicate (3 - (lg_sl ([.ref h0, .int a])).length) Slot.unset).toArray = ls at hl ⊢
  have hl : lv_has ls 3 [(0, .ref h0), (1, .int a)] := hl
  have iX8 : ∀ w ∈ u_ws RX8 TX8 33, w ∈ wsX8_mends := by decide +kernel
  refine lv_iload_n hx hb dX8_mends_0 rfl (lv_at hl 1 rfl) ?_
  refine lv_if_lt (tgt := 16) hx hb dX8_mends_1 (by decide) (fun c1 => ?_) (fun c1 => ?_)
  · skip
    refine lv_aload_n hx hb dX8_mends_16 rfl (lv_at hl 0 rfl) ?_
    refine lv_iconst (v := (-1)) hx hb dX8_mends_17 (by decide) ?_
    have hPc := hP.sub (ws' := [(h0, .inr (6, [.ref r_refused, .ref r_now, .ref r_then, .ref r_before, .ref r_asIs, .int 0, .ref r_tape, .int 0, .int 0, .int 0, .ref r_begins, .ref r_kinds, .int 0, .ref r_field, .ref r_willTeach, .ref r_isBack, .ref r_told, .ref r_bestSeats, .ref r_firstSeats, .int 0, .int 0, .int 0, .int 0, .int 0, .int 0, .int 0, .int 0, .int 0, .ref r_restLearn, .ref r_marksNow, .ref r_row, .int 0, .int 0])), (r_refused, .inl (cI, 7, .inl (fun _ => 0)))]) [0, 1] rfl
    have hDc := hD.sub (ws' := [(h0, .inr (6, [.ref r_refused, .ref r_now, .ref r_then, .ref r_before, .ref r_asIs, .int 0, .ref r_tape, .int 0, .int 0, .int 0, .ref r_begins, .ref r_kinds, .int 0, .ref r_field, .ref r_willTeach, .ref r_isBack, .ref r_told, .ref r_bestSeats, .ref r_firstSeats, .int 0, .int 0, .int 0, .int 0, .int 0, .int 0, .int 0, .int 0, .int 0, .ref r_restLearn, .ref r_marksNow, .ref r_row, .int 0, .int 0])), (r_refused, .inl (cI, 7, .inl (fun _ => 0)))]) [0, 1] (by decide) rfl
    refine vx_calli (wc := [(h0, .inr (6, [.ref r_refused, .ref r_now, .ref r_then, .ref r_before, .ref r_asIs, .int 0, .ref r_tape, .int 0, .int 0, .int 0, .ref r_begins, .ref r_kinds, .int 0, .ref r_field, .ref r_willTeach, .ref r_isBack, .ref r_told, .ref r_bestSeats, .ref r_firstSeats, .int 0, .int 0, .int 0, .int 0, .int 0, .int 0, .int 0, .int 0, .int 0, .ref r_restLearn, .ref r_marksNow, .ref r_row, .int 0, .int 0])), (r_refused, .inl (cI, 7, .inl (fun _ => 0)))]) (wr := [(r_now, .inl (cI, 80, .inl (upd (upd (upd (upd (fun _ => 0) 1 2) 3 1) 4 10) 5 1)))]) hP hD hS hA [0, 1] [2] rfl rfl (by decide) (by decide) (va_runV (As := [.int (-1)]) (rest := []) ⟨hx, hb, hml, hown, hts⟩ (r_no1 l dC dI cI cC cZ _ h0 r_refused r_now r_then r_before r_asIs r_tape r_begins r_kinds r_field r_willTeach r_isBack r_told r_bestSeats r_firstSeats r_restLearn r_marksNow r_row 0 0 0 0 0 0 0 0 0 0 0 0 0 0 0 0 0 (fun _ => 0) rfl) (cwV 1 hts gX8_mends_X8_no rfl rfl rfl (by decide +kernel) ⟨Nat.le_of_ble_eq_true rfl, Nat.le_of_ble_eq_true rfl⟩) ⟨vx_blind, va_recv hK hPc (ci := 6) (q0 := 0) rfl rfl, vx_pre hK hPc hDc⟩ rfl rfl hl.1 rfl (lv_room (Nat.le_of_ble_eq_true rfl)) dX8_mends_18 ⟨Nat.le_of_ble_eq_true rfl, Nat.le_of_ble_eq_true rfl⟩) (fun r3 u2 H locs hw4 hP hD hS => ?_)
    have hP : va_P (dC, dI) vwCl [(r_now, .inl (cI, 80, .inl (upd (upd (upd (upd (fun _ => 0) 1 2) 3 1) 4 10) 5 1))), (h0, .inr (6, [.ref r_refused, .ref r_now, .ref r_then, .ref r_before, .ref r_asIs, .int 0, .ref r_tape, .int 0, .int 0, .int 0, .ref r_begins, .ref r_kinds, .int 0, .ref r_field, .ref r_willTeach, .ref r_isBack, .ref r_told, .ref r_bestSeats, .ref r_firstSeats, .int 0, .int 0, .int 0, .int 0, .int 0, .int 0, .int 0, .int 0, .int 0, .ref r_restLearn, .ref r_marksNow, .ref r_row, .int 0, .int 0])), (r_refused, .inl (cI, 7, .inl (upd (fun _ => 0) 1 1)))] H := hP
    have hD : va_D A [(r_now, .inl (cI, 80, .inl (upd (upd (upd (upd (fun _ => 0) 1 2) 3 1) 4 10) 5 1))), (h0, .inr (6, [.ref r_refused, .ref r_now, .ref r_then, .ref r_before, .ref r_asIs, .int 0, .ref r_tape, .int 0, .int 0, .int 0, .ref r_begins, .ref r_kinds, .int 0, .ref r_field, .ref r_willTeach, .ref r_isBack, .ref r_told, .ref r_bestSeats, .ref r_firstSeats, .int 0, .int 0, .int 0, .int 0, .int 0, .int 0, .int 0, .int 0, .int 0, .ref r_restLearn, .ref r_marksNow, .ref r_row, .int 0, .int 0])), (r_refused, .inl (cI, 7, .inl (upd (fun _ => 0) 1 1)))] := hD
    have er3 : (-1) = r3 := Eq.symm hw4
    subst er3
    exact vx_iret (u := ()) hx hb hr hlocks hK hP hD hS [] rfl (by decide) (zz_m_mends_0 a c1) dX8_mends_21
  · skip
    refine lv_iload_n hx hb dX8_mends_4 rfl (lv_at hl 1 rfl) ?_
    refine lv_iconst (v := 1) hx hb dX8_mends_5 (by decide) ?_
    refine lv_aload_n hx hb dX8_mends_6 rfl (lv_at hl 0 rfl) ?_
    refine va_get (D := (dC, dI)) (ci := 6) (v := .ref r_now) (C := RX8) (T := TX8) (N := 33) hx hb hts iX8 hown hK hP 0 rfl rfl 1 (by decide) (hts (.fieldLink RX8 13 "NeighboursMarkModel" "now" "[I") (by decide +kernel)) (fun _ h9 => h9) rfl dX8_mends_7 ?_
    refine lv_iconst (v := 0) hx hb dX8_mends_10 (by decide) ?_
    refine va_iald hx hb hK hP 2 0 rfl rfl (by unfold vp_in; decide) dX8_mends_11 ?_
    refine lv_topi (fun x5 ex5 => ?_)
    have ex5 : 0 = x5 := (ex5.trans rfl).symm
    subst ex5
    refine lv_ishl hx hb dX8_mends_12 ?_
    refine lv_topi (fun x6 ex6 => ?_)
    have ex6 : 1 = x6 := (ex6.trans (by decide)).symm
    subst ex6
    refine lv_icmp_lt (tgt := 22) hx hb dX8_mends_13 (by decide) (fun c7 => ?_) (fun c7 => ?_)
    · skip
      rcases (zz_m_mends_1 a c1 c7) with e_a
      · subst e_a
        refine lv_iconst (v := 0) hx hb dX8_mends_22 (by decide) ?_
        refine lv_istore_n (lv' := [(2, .int 0), (0, .ref h0), (1, .int 0)]) hx hb dX8_mends_23 rfl hl (by decide) rfl (fun ls hl => ?_)
        refine lv_iload_n hx hb dX8_mends_24 rfl (lv_at hl 0 rfl) ?_
        refine lv_iconst (v := 3) hx hb dX8_mends_25 (by decide) ?_
        refine lv_icmp_ge (tgt := 46) hx hb dX8_mends_26 (by decide) (fun c0 => absurd c0 (by decide)) (fun _ => ?_)
        refine lv_aload_n hx hb dX8_mends_29 rfl (lv_at hl 1 rfl) ?_
        refine lv_iload_n hx hb dX8_mends_30 rfl (lv_at hl 2 rfl) ?_
        refine lv_iload_n hx hb dX8_mends_31 rfl (lv_at hl 0 rfl) ?_
        have hPc := hP.sub (ws' := [(h0, .inr (6, [.ref r_refused, .ref r_now, .ref r_then, .ref r_before, .ref r_asIs, .int 0, .ref r_tape, .int 0, .int 0, .int 0, .ref r_begins, .ref r_kinds, .int 0, .ref r_field, .ref r_willTeach, .ref r_isBack, .ref r_told, .ref r_bestSeats, .ref r_firstSeats, .int 0, .int 0, .int 0, .int 0, .int 0, .int 0, .int 0, .int 0, .int 0, .ref r_restLearn, .ref r_marksNow, .ref r_row, .int 0, .int 0])), (r_now, .inl (cI, 80, .inl (upd (upd (upd (upd (fun _ => 0) 1 2) 3 1) 4 10) 5 1)))]) [0, 2] rfl
        have hDc := hD.sub (ws' := [(h0, .inr (6, [.ref r_refused, .ref r_now, .ref r_then, .ref r_before, .ref r_asIs, .int 0, .ref r_tape, .int 0, .int 0, .int 0, .ref r_begins, .ref r_kinds, .int 0, .ref r_field, .ref r_willTeach, .ref r_isBack, .ref r_told, .ref r_bestSeats, .ref r_firstSeats, .int 0, .int 0, .int 0, .int 0, .int 0, .int 0, .int 0, .int 0, .int 0, .ref r_restLearn, .ref r_marksNow, .ref r_row, .int 0, .int 0])), (r_now, .inl (cI, 80, .inl (upd (upd (upd (upd (fun _ => 0) 1 2) 3 1) 4 10) 5 1)))]) [0, 2] (by decide) rfl
        refine vx_calli (wc := [(h0, .inr (6, [.ref r_refused, .ref r_now, .ref r_then, .ref r_before, .ref r_asIs, .int 0, .ref r_tape, .int 0, .int 0, .int 0, .ref r_begins, .ref r_kinds, .int 0, .ref r_field, .ref r_willTeach, .ref r_isBack, .ref r_told, .ref r_bestSeats, .ref r_firstSeats, .int 0, .int 0, .int 0, .int 0, .int 0, .int 0, .int 0, .int 0, .int 0, .ref r_restLearn, .ref r_marksNow, .ref r_row, .int 0, .int 0])), (r_now, .inl (cI, 80, .inl (upd (upd (upd (upd (fun _ => 0) 1 2) 3 1) 4 10) 5 1)))]) (wr := [(r_refused, .inl (cI, 7, .inl (fun _ => 0)))]) hP hD hS hA [0, 2] [1] rfl rfl (by decide) (by decide) (va_runV (As := [.int 0, .int 0]) (rest := []) ⟨hx, hb, hml, hown, hts⟩ (r_isMended l dC dI cI cC cZ _ h0 r_refused r_now r_then r_before r_asIs r_tape r_begins r_kinds r_field r_willTeach r_isBack r_told r_bestSeats r_firstSeats r_restLearn r_marksNow r_row 0 0 0 0 0 0 0 0 0 0 0 0 0 0 0 0 (upd (upd (upd (upd (fun _ => 0) 1 2) 3 1) 4 10) 5 1) rfl) (cwV 2 hts gX8_mends_X8_isMended rfl rfl rfl (by decide +kernel) ⟨Nat.le_of_ble_eq_true rfl, Nat.le_of_ble_eq_true rfl⟩) ⟨vx_blind, va_recv hK hPc (ci := 6) (q0 := 0) rfl rfl, vx_pre hK hPc hDc⟩ rfl rfl hl.1 rfl (lv_room (Nat.le_of_ble_eq_true rfl)) dX8_mends_32 ⟨Nat.le_of_ble_eq_true rfl, Nat.le_of_ble_eq_true rfl⟩) (fun r9 u8 H locs hw10 hP hD hS => ?_)
        have hP : va_P (dC, dI) vwCl [(r_refused, .inl (cI, 7, .inl (fun _ => 0))), (h0, .inr (6, [.ref r_refused, .ref r_now, .ref r_then, .ref r_before, .ref r_asIs, .int 0, .ref r_tape, .int 0, .int 0, .int 0, .ref r_begins, .ref r_kinds, .int 0, .ref r_field, .ref r_willTeach, .ref r_isBack, .ref r_told, .ref r_bestSeats, .ref r_firstSeats, .int 0, .int 0, .int 0, .int 0, .int 0, .int 0, .int 0, .int 0, .int 0, .ref r_restLearn, .ref r_marksNow, .ref r_row, .int 0, .int 0])), (r_now, .inl (cI, 80, .inl (upd (upd (upd (upd (fun _ => 0) 1 2) 3 1) 4 10) 5 1)))] H := hP
        have hD : va_D A [(r_refused, .inl (cI, 7, .inl (fun _ => 0))), (h0, .inr (6, [.ref r_refused, .ref r_now, .ref r_then, .ref r_before, .ref r_asIs, .int 0, .ref r_tape, .int 0, .int 0, .int 0, .ref r_begins, .ref r_kinds, .int 0, .ref r_field, .ref r_willTeach, .ref r_isBack, .ref r_told, .ref r_bestSeats, .ref r_firstSeats, .int 0, .int 0, .int 0, .int 0, .int 0, .int 0, .int 0, .int 0, .int 0, .ref r_restLearn, .ref r_marksNow, .ref r_row, .int 0, .int 0])), (r_now, .inl (cI, 80, .inl (upd (upd (upd (upd (fun _ => 0) 1 2) 3 1) 4 10) 5 1)))] := hD
        have er9 : 1 = r9 := Eq.symm hw10
        subst er9
        refine lv_if_eq (tgt := 40) hx hb dX8_mends_35 (by decide) (fun c0 => absurd c0 (by decide)) (fun _ => ?_)
        refine lv_iload_n hx hb dX8_mends_38 rfl (lv_at hl 0 rfl) ?_
        exact vx_iret (u := ()) hx hb hr hlocks hK hP hD hS [] rfl (by decide) (show (0 : Int32) = f_mends 0 by decide) dX8_mends_39
    · skip
      refine lv_aload_n hx hb dX8_mends_16 rfl (lv_at hl 0 rfl) ?_
      refine lv_iconst (v := (-1)) hx hb dX8_mends_17 (by decide) ?_
      have hPc := hP.sub (ws' := [(h0, .inr (6, [.ref r_refused, .ref r_now, .ref r_then, .ref r_before, .ref r_asIs, .int 0, .ref r_tape, .int 0, .int 0, .int 0, .ref r_begins, .ref r_kinds, .int 0, .ref r_field, .ref r_willTeach, .ref r_isBack, .ref r_told, .ref r_bestSeats, .ref r_firstSeats, .int 0, .int 0, .int 0, .int 0, .int 0, .int 0, .int 0, .int 0, .int 0, .ref r_restLearn, .ref r_marksNow, .ref r_row, .int 0, .int 0])), (r_refused, .inl (cI, 7, .inl (fun _ => 0)))]) [0, 1] rfl
      have hDc := hD.sub (ws' := [(h0, .inr (6, [.ref r_refused, .ref r_now, .ref r_then, .ref r_before, .ref r_asIs, .int 0, .ref r_tape, .int 0, .int 0, .int 0, .ref r_begins, .ref r_kinds, .int 0, .ref r_field, .ref r_willTeach, .ref r_isBack, .ref r_told, .ref r_bestSeats, .ref r_firstSeats, .int 0, .int 0, .int 0, .int 0, .int 0, .int 0, .int 0, .int 0, .int 0, .ref r_restLearn, .ref r_marksNow, .ref r_row, .int 0, .int 0])), (r_refused, .inl (cI, 7, .inl (fun _ => 0)))]) [0, 1] (by decide) rfl
      refine vx_calli (wc := [(h0, .inr (6, [.ref r_refused, .ref r_now, .ref r_then, .ref r_before, .ref r_asIs, .int 0, .ref r_tape, .int 0, .int 0, .int 0, .ref r_begins, .ref r_kinds, .int 0, .ref r_field, .ref r_willTeach, .ref r_isBack, .ref r_told, .ref r_bestSeats, .ref r_firstSeats, .int 0, .int 0, .int 0, .int 0, .int 0, .int 0, .int 0, .int 0, .int 0, .ref r_restLearn, .ref r_marksNow, .ref r_row, .int 0, .int 0])), (r_refused, .inl (cI, 7, .inl (fun _ => 0)))]) (wr := [(r_now, .inl (cI, 80, .inl (upd (upd (upd (upd (fun _ => 0) 1 2) 3 1) 4 10) 5 1)))]) hP hD hS hA [0, 1] [2] rfl rfl (by decide) (by decide) (va_runV (As := [.int (-1)]) (rest := []) ⟨hx, hb, hml, hown, hts⟩ (r_no1 l dC dI cI cC cZ _ h0 r_refused r_now r_then r_before r_asIs r_tape r_begins r_kinds r_field r_willTeach r_isBack r_told r_bestSeats r_firstSeats r_restLearn r_marksNow r_row 0 0 0 0 0 0 0 0 0 0 0 0 0 0 0 0 0 (fun _ => 0) rfl) (cwV 1 hts gX8_mends_X8_no rfl rfl rfl (by decide +kernel) ⟨Nat.le_of_ble_eq_true rfl, Nat.le_of_ble_eq_true rfl⟩) ⟨vx_blind, va_recv hK hPc (ci := 6) (q0 := 0) rfl rfl, vx_pre hK hPc hDc⟩ rfl rfl hl.1 rfl (lv_room (Nat.le_of_ble_eq_true rfl)) dX8_mends_18 ⟨Nat.le_of_ble_eq_true rfl, Nat.le_of_ble_eq_true rfl⟩) (fun r12 u11 H locs hw13 hP hD hS => ?_)
      have hP : va_P (dC, dI) vwCl [(r_now, .inl (cI, 80, .inl (upd (upd (upd (upd (fun _ => 0) 1 2) 3 1) 4 10) 5 1))), (h0, .inr (6, [.ref r_refused, .ref r_now, .ref r_then, .ref r_before, .ref r_asIs, .int 0, .ref r_tape, .int 0, .int 0, .int 0, .ref r_begins, .ref r_kinds, .int 0, .ref r_field, .ref r_willTeach, .ref r_isBack, .ref r_told, .ref r_bestSeats, .ref r_firstSeats, .int 0, .int 0, .int 0, .int 0, .int 0, .int 0, .int 0, .int 0, .int 0, .ref r_restLearn, .ref r_marksNow, .ref r_row, .int 0, .int 0])), (r_refused, .inl (cI, 7, .inl (upd (fun _ => 0) 1 1)))] H := hP
      have hD : va_D A [(r_now, .inl (cI, 80, .inl (upd (upd (upd (upd (fun _ => 0) 1 2) 3 1) 4 10) 5 1))), (h0, .inr (6, [.ref r_refused, .ref r_now, .ref r_then, .ref r_before, .ref r_asIs, .int 0, .ref r_tape, .int 0, .int 0, .int 0, .ref r_begins, .ref r_kinds, .int 0, .ref r_field, .ref r_willTeach, .ref r_isBack, .ref r_told, .ref r_bestSeats, .ref r_firstSeats, .int 0, .int 0, .int 0, .int 0, .int 0, .int 0, .int 0, .int 0, .int 0, .ref r_restLearn, .ref r_marksNow, .ref r_row, .int 0, .int 0])), (r_refused, .inl (cI, 7, .inl (upd (fun _ => 0) 1 1)))] := hD
      have er12 : (-1) = r12 := Eq.symm hw13
      subst er12
      exact vx_iret (u := ()) hx hb hr hlocks hK hP hD hS [] rfl (by decide) (zz_m_mends_2 a c1 c7) dX8_mends_21
theorem zz_m_row_0 (a : Int32) (h0 : (0 : Int32) ≤ a) (h1 : (99 : Int32) < a) : ((-6) : Int32) = f_row a := by
  have e0 : ((-6) : Int32).toInt = -6 := by decide
  have e1 : ((-4) : Int32).toInt = -4 := by decide
  have e2 : (0 : Int32).toInt = 0 := by decide
  have e3 : (1 : Int32).toInt = 1 := by decide
  have e4 : (32 : Int32).toInt = 32 := by decide
  have e5 : (99 : Int32).toInt = 99 := by decide
  unfold f_row
  (repeat' split) <;> first | rfl | (exfalso; simp only [Int32.lt_iff_toInt_lt, Int32.le_iff_toInt_le, ← Int32.toInt_inj, e0, e1, e2, e3, e4, e5] at * <;> omega)
theorem zz_m_row_1 (a : Int32) (h0 : (0 : Int32) ≤ a) (h1 : ¬ (99 : Int32) < a) : (1 : Int32) = f_row a := by
  have e0 : ((-6) : Int32).toInt = -6 := by decide
  have e1 : ((-4) : Int32).toInt = -4 := by decide
  have e2 : (0 : Int32).toInt = 0 := by decide
  have e3 : (1 : Int32).toInt = 1 := by decide
  have e4 : (32 : Int32).toInt = 32 := by decide
  have e5 : (99 : Int32).toInt = 99 := by decide
  unfold f_row
  (repeat' split) <;> first | rfl | (exfalso; simp only [Int32.lt_iff_toInt_lt, Int32.le_iff_toInt_le, ← Int32.toInt_inj, e0, e1, e2, e3, e4, e5] at * <;> omega)
theorem zz_m_row_2 (a : Int32) (h0 : ¬ (0 : Int32) ≤ a) : ((-4) : Int32) = f_row a := by
  have e0 : ((-6) : Int32).toInt = -6 := by decide
  have e1 : ((-4) : Int32).toInt = -4 := by decide
  have e2 : (0 : Int32).toInt = 0 := by decide
  have e3 : (1 : Int32).toInt = 1 := by decide
  have e4 : (32 : Int32).toInt = 32 := by decide
  have e5 : (99 : Int32).toInt = 99 := by decide
  unfold f_row
  (repeat' split) <;> first | rfl | (exfalso; simp only [Int32.lt_iff_toInt_lt, Int32.le_iff_toInt_le, ← Int32.toInt_inj, e0, e1, e2, e3, e4, e5] at * <;> omega)
set_option maxHeartbeats 4000000 in
set_option maxRecDepth 100000 in
theorem m_row (l : Launch) (dC : Nat → ClassId) (dI : Nat → Nat → Nat) (cI cC cZ : ClassId) (sz : Nat) (h0 r_refused r_now r_then r_before r_asIs r_tape r_begins r_kinds r_field r_willTeach r_isBack r_told r_bestSeats r_firstSeats r_restLearn r_marksNow r_row : Nat) (a : Int32) : Met l yX8_row wsX8_row ({ frames := 1, cells := 0, slots := 0, locals := 21 }) (va_Pc [.ref h0, .int a] (vx_B (dC, dI) (vx_T cI cC cZ) sz [(h0, .inr (6, [.ref r_refused, .ref r_now, .ref r_then, .ref r_before, .ref r_asIs, .int 0, .ref r_tape, .int 0, .int 0, .int 0, .ref r_begins, .ref r_kinds, .int 0, .ref r_field, .ref r_willTeach, .ref r_isBack, .ref r_told, .ref r_bestSeats, .ref r_firstSeats, .int 0, .int 0, .int 0, .int 0, .int 0, .int 0, .int 0, .int 0, .int 0, .ref r_restLearn, .ref r_marksNow, .ref r_row, .int 0, .int 0])), (r_refused, .inl (cI, 7, .inl (fun _ => 0))), (r_row, .inl (cI, 6, .inl (fun _ => 0)))])) (va_Qi (fun (r : Int32) (_ : Unit) => r = f_row a) (vx_C (dC, dI) (vx_T cI cC cZ) (va_A [(h0, .inr (6, [.ref r_refused, .ref r_now, .ref r_then, .ref r_before, .ref r_asIs, .int 0, .ref r_tape, .int 0, .int 0, .int 0, .ref r_begins, .ref r_kinds, .int 0, .ref r_field, .ref r_willTeach, .ref r_isBack, .ref r_told, .ref r_bestSeats, .ref r_firstSeats, .int 0, .int 0, .int 0, .int 0, .int 0, .int 0, .int 0, .int 0, .int 0, .ref r_restLearn, .ref r_marksNow, .ref r_row, .int 0, .int 0])), (r_refused, .inl (cI, 7, .inl (fun _ => 0))), (r_row, .inl (cI, 6, .inl (fun _ => 0)))] sz) (fun (u : Unit) => [])) (va_A [(h0, .inr (6, [.ref r_refused, .ref r_now, .ref r_then, .ref r_before, .ref r_asIs, .int 0, .ref r_tape, .int 0, .int 0, .int 0, .ref r_begins, .ref r_kinds, .int 0, .ref r_field, .ref r_willTeach, .ref r_isBack, .ref r_told, .ref r_bestSeats, .ref r_firstSeats, .int 0, .int 0, .int 0, .int 0, .int 0, .int 0, .int 0, .int 0, .int 0, .ref r_restLearn, .ref r_marksNow, .ref r_row, .int 0, .int 0])), (r_refused, .inl (cI, 7, .inl (fun _ => 0))), (r_row, .inl (cI, 6, .inl (fun _ => 0)))] sz)) 0 0 (va_A [(h0, .inr (6, [.ref r_refused, .ref r_now, .ref r_then, .ref r_before, .ref r_asIs, .int 0, .ref r_tape, .int 0, .int 0, .int 0, .ref r_begins, .ref r_kinds, .int 0, .ref r_field, .ref r_willTeach, .ref r_isBack, .ref r_told, .ref r_bestSeats, .ref r_firstSeats, .int 0, .int 0, .int 0, .int 0, .int 0, .int 0, .int 0, .int 0, .int 0, .ref r_restLearn, .ref r_marksNow, .ref r_row, .int 0, .int 0])), (r_refused, .inl (cI, 7, .inl (fun _ => 0))), (r_row, .inl (cI, 6, .inl (fun _ => 0)))] sz) := by
  refine Met.ofW (cc := cX8_row) (maxL := 2) (ret := (some .int)) (by decide) rfl ?_
  intro p e s m args below meth c s₁ B hml hv
  obtain ⟨rfl, hsz, hP, hK, hD0⟩ := hv
  have hx := B.exec
  have hb := B.bytes
  have hr := B.returns
  have hts := atoms_spec (ws := wsX8_row) B.pre
  have hown : s.vm.findClass RX8 = some m.cls := findClass_of_methodNamed B.named
  have hlocks := B.notSynchronized
  subst hsz
  have hD := hD0.self (sz := s.heap.size)
  generalize hAe : va_A [(h0, .inr (6, [.ref r_refused, .ref r_now, .ref r_then, .ref r_before, .ref r_asIs, .int 0, .ref r_tape, .int 0, .int 0, .int 0, .ref r_begins, .ref r_kinds, .int 0, .ref r_field, .ref r_willTeach, .ref r_isBack, .ref r_told, .ref r_bestSeats, .ref r_firstSeats, .int 0, .int 0, .int 0, .int 0, .int 0, .int 0, .int 0, .int 0, .int 0, .ref r_restLearn, .ref r_marksNow, .ref r_row, .int 0, .int 0])), (r_refused, .inl (cI, 7, .inl (fun _ => 0))), (r_row, .inl (cI, 6, .inl (fun _ => 0)))] s.heap.size = A at hD ⊢
  have hA : ∀ q : Nat, s.heap.size ≤ q → A q := fun q h => by rw [← hAe]; exact Or.inr h
  have hS : va_S A s.heap s.heap [] := va_S.rf
  have hl := lv_entry ([.ref h0, .int a]) (n := 2) (Nat.le_of_ble_eq_true rfl)
  rw [lg_entry_eq]
  generalize (lg_sl ([.ref h0, .int a]) ++ List.replicate (2 - (lg_sl ([.ref h0, .int a])).length) Slot.unset).toArray = ls at hl ⊢
  have hl : lv_has ls 2 [(0, .ref h0), (1, .int a)] := hl
  have iX8 : ∀ w ∈ u_ws RX8 TX8 33, w ∈ wsX8_row := by decide +kernel
  refine lv_iload_n hx hb dX8_row_0 rfl (lv_at hl 1 rfl) ?_
  refine lv_if_ge (tgt := 11) hx hb dX8_row_1 (by decide) (fun c1 => ?_) (fun c1 => ?_)
  · skip
    refine lv_iload_n hx hb dX8_row_11 rfl (lv_at hl 1 rfl) ?_
    refine lv_bipush (v := 99) hx hb dX8_row_12 (by decide) ?_
    refine lv_icmp_gt (tgt := 26) hx hb dX8_row_14 (by decide) (fun c2 => ?_) (fun c2 => ?_)
    · skip
      refine lv_aload_n hx hb dX8_row_26 rfl (lv_at hl 0 rfl) ?_
      refine lv_bipush (v := (-6)) hx hb dX8_row_27 (by decide) ?_
      have hPc := hP.sub (ws' := [(h0, .inr (6, [.ref r_refused, .ref r_now, .ref r_then, .ref r_before, .ref r_asIs, .int 0, .ref r_tape, .int 0, .int 0, .int 0, .ref r_begins, .ref r_kinds, .int 0, .ref r_field, .ref r_willTeach, .ref r_isBack, .ref r_told, .ref r_bestSeats, .ref r_firstSeats, .int 0, .int 0, .int 0, .int 0, .int 0, .int 0, .int 0, .int 0, .int 0, .ref r_restLearn, .ref r_marksNow, .ref r_row, .int 0, .int 0])), (r_refused, .inl (cI, 7, .inl (fun _ => 0)))]) [0, 1] rfl
      have hDc := hD.sub (ws' := [(h0, .inr (6, [.ref r_refused, .ref r_now, .ref r_then, .ref r_before, .ref r_asIs, .int 0, .ref r_tape, .int 0, .int 0, .int 0, .ref r_begins, .ref r_kinds, .int 0, .ref r_field, .ref r_willTeach, .ref r_isBack, .ref r_told, .ref r_bestSeats, .ref r_firstSeats, .int 0, .int 0, .int 0, .int 0, .int 0, .int 0, .int 0, .int 0, .int 0, .ref r_restLearn, .ref r_marksNow, .ref r_row, .int 0, .int 0])), (r_refused, .inl (cI, 7, .inl (fun _ => 0)))]) [0, 1] (by decide) rfl
      refine vx_calli (wc := [(h0, .inr (6, [.ref r_refused, .ref r_now, .ref r_then, .ref r_before, .ref r_asIs, .int 0, .ref r_tape, .int 0, .int 0, .int 0, .ref r_begins, .ref r_kinds, .int 0, .ref r_field, .ref r_willTeach, .ref r_isBack, .ref r_told, .ref r_bestSeats, .ref r_firstSeats, .int 0, .int 0, .int 0, .int 0, .int 0, .int 0, .int 0, .int 0, .int 0, .ref r_restLearn, .ref r_marksNow, .ref r_row, .int 0, .int 0])), (r_refused, .inl (cI, 7, .inl (fun _ => 0)))]) (wr := [(r_row, .inl (cI, 6, .inl (fun _ => 0)))]) hP hD hS hA [0, 1] [2] rfl rfl (by decide) (by decide) (va_runV (As := [.int (-6)]) (rest := []) ⟨hx, hb, hml, hown, hts⟩ (r_no6 l dC dI cI cC cZ _ h0 r_refused r_now r_then r_before r_asIs r_tape r_begins r_kinds r_field r_willTeach r_isBack r_told r_bestSeats r_firstSeats r_restLearn r_marksNow r_row 0 0 0 0 0 0 0 0 0 0 0 0 0 0 0 0 0 (fun _ => 0) rfl) (cwV 1 hts gX8_row_X8_no rfl rfl rfl (by decide +kernel) ⟨Nat.le_of_ble_eq_true rfl, Nat.le_of_ble_eq_true rfl⟩) ⟨vx_blind, va_recv hK hPc (ci := 6) (q0 := 0) rfl rfl, vx_pre hK hPc hDc⟩ rfl rfl hl.1 rfl (lv_room (Nat.le_of_ble_eq_true rfl)) dX8_row_29 ⟨Nat.le_of_ble_eq_true rfl, Nat.le_of_ble_eq_true rfl⟩) (fun r4 u3 H locs hw5 hP hD hS => ?_)
      have hP : va_P (dC, dI) vwCl [(r_row, .inl (cI, 6, .inl (fun _ => 0))), (h0, .inr (6, [.ref r_refused, .ref r_now, .ref r_then, .ref r_before, .ref r_asIs, .int 0, .ref r_tape, .int 0, .int 0, .int 0, .ref r_begins, .ref r_kinds, .int 0, .ref r_field, .ref r_willTeach, .ref r_isBack, .ref r_told, .ref r_bestSeats, .ref r_firstSeats, .int 0, .int 0, .int 0, .int 0, .int 0, .int 0, .int 0, .int 0, .int 0, .ref r_restLearn, .ref r_marksNow, .ref r_row, .int 0, .int 0])), (r_refused, .inl (cI, 7, .inl (upd (fun _ => 0) 6 1)))] H := hP
      have hD : va_D A [(r_row, .inl (cI, 6, .inl (fun _ => 0))), (h0, .inr (6, [.ref r_refused, .ref r_now, .ref r_then, .ref r_before, .ref r_asIs, .int 0, .ref r_tape, .int 0, .int 0, .int 0, .ref r_begins, .ref r_kinds, .int 0, .ref r_field, .ref r_willTeach, .ref r_isBack, .ref r_told, .ref r_bestSeats, .ref r_firstSeats, .int 0, .int 0, .int 0, .int 0, .int 0, .int 0, .int 0, .int 0, .int 0, .ref r_restLearn, .ref r_marksNow, .ref r_row, .int 0, .int 0])), (r_refused, .inl (cI, 7, .inl (upd (fun _ => 0) 6 1)))] := hD
      have er4 : (-6) = r4 := Eq.symm hw5
      subst er4
      exact vx_iret (u := ()) hx hb hr hlocks hK hP hD hS [] rfl (by decide) (zz_m_row_0 a c1 c2) dX8_row_32
    · skip
      refine lv_aload_n hx hb dX8_row_17 rfl (lv_at hl 0 rfl) ?_
      refine va_get (D := (dC, dI)) (ci := 6) (v := .int 0) (C := RX8) (T := TX8) (N := 33) hx hb hts iX8 hown hK hP 0 rfl rfl 31 (by decide) (hts (.fieldLink RX8 178 "NeighboursMarkModel" "rows" "I") (by decide +kernel)) (fun _ h9 => h9) rfl dX8_row_18 ?_
      refine lv_bipush (v := 6) hx hb dX8_row_21 (by decide) ?_
      refine lv_icmp_ne (tgt := 33) hx hb dX8_row_23 (by decide) (fun _ => ?_) (fun c0 => absurd c0 (by decide))
      refine lv_aload_n hx hb dX8_row_33 rfl (lv_at hl 0 rfl) ?_
      refine va_get (D := (dC, dI)) (ci := 6) (v := .ref r_row) (C := RX8) (T := TX8) (N := 33) hx hb hts iX8 hown hK hP 0 rfl rfl 30 (by decide) (hts (.fieldLink RX8 60 "NeighboursMarkModel" "row" "[I") (by decide +kernel)) (fun _ h9 => h9) rfl dX8_row_34 ?_
      refine lv_aload_n hx hb dX8_row_37 rfl (lv_at hl 0 rfl) ?_
      refine va_get (D := (dC, dI)) (ci := 6) (v := .int 0) (C := RX8) (T := TX8) (N := 33) hx hb hts iX8 hown hK hP 0 rfl rfl 31 (by decide) (hts (.fieldLink RX8 178 "NeighboursMarkModel" "rows" "I") (by decide +kernel)) (fun _ h9 => h9) rfl dX8_row_38 ?_
      refine lv_iload_n hx hb dX8_row_41 rfl (lv_at hl 1 rfl) ?_
      refine va_iast hx hb hK hP hD hS 2 0 rfl rfl (by unfold vp_in; decide) dX8_row_42 (fun H locs hP hD hS => ?_)
      have hP : va_P (dC, dI) vwCl [(h0, .inr (6, [.ref r_refused, .ref r_now, .ref r_then, .ref r_before, .ref r_asIs, .int 0, .ref r_tape, .int 0, .int 0, .int 0, .ref r_begins, .ref r_kinds, .int 0, .ref r_field, .ref r_willTeach, .ref r_isBack, .ref r_told, .ref r_bestSeats, .ref r_firstSeats, .int 0, .int 0, .int 0, .int 0, .int 0, .int 0, .int 0, .int 0, .int 0, .ref r_restLearn, .ref r_marksNow, .ref r_row, .int 0, .int 0])), (r_refused, .inl (cI, 7, .inl (fun _ => 0))), (r_row, .inl (cI, 6, .inl (upd (fun _ => 0) 0 a)))] H := hP
      have hD : va_D A [(h0, .inr (6, [.ref r_refused, .ref r_now, .ref r_then, .ref r_before, .ref r_asIs, .int 0, .ref r_tape, .int 0, .int 0, .int 0, .ref r_begins, .ref r_kinds, .int 0, .ref r_field, .ref r_willTeach, .ref r_isBack, .ref r_told, .ref r_bestSeats, .ref r_firstSeats, .int 0, .int 0, .int 0, .int 0, .int 0, .int 0, .int 0, .int 0, .int 0, .ref r_restLearn, .ref r_marksNow, .ref r_row, .int 0, .int 0])), (r_refused, .inl (cI, 7, .inl (fun _ => 0))), (r_row, .inl (cI, 6, .inl (upd (fun _ => 0) 0 a)))] := hD
      refine lv_aload_n hx hb dX8_row_43 rfl (lv_at hl 0 rfl) ?_
      refine lv_dup hx hb dX8_row_44 rfl ?_
      refine va_get (D := (dC, dI)) (ci := 6) (v := .int 0) (C := RX8) (T := TX8) (N := 33) hx hb hts iX8 hown hK hP 0 rfl rfl 31 (by decide) (hts (.fieldLink RX8 178 "NeighboursMarkModel" "rows" "I") (by decide +kernel)) (fun _ h9 => h9) rfl dX8_row_45 ?_
      refine lv_iconst (v := 1) hx hb dX8_row_48 (by decide) ?_
      refine lv_iadd hx hb dX8_row_49 ?_
      refine lv_topi (fun x6 ex6 => ?_)
      have ex6 : 1 = x6 := (ex6.trans (by decide)).symm
      subst ex6
      refine va_put (D := (dC, dI)) (ci := 6) (v := .int 1) (ty := .int) (C := RX8) (T := TX8) (N := 33) hx hb hts iX8 tyX8 tyX8_ok nmX8 hown hK hP hD hS 0 rfl rfl 31 (by decide) (hts (.fieldLink RX8 178 "NeighboursMarkModel" "rows" "I") (by decide +kernel)) (fun _ h9 => h9) rfl (by decide +kernel) rfl rfl (Nat.le_of_ble_eq_true rfl) dX8_row_50 (fun H locs hP hD hS => ?_)
      have hP : va_P (dC, dI) vwCl [(h0, .inr (6, [.ref r_refused, .ref r_now, .ref r_then, .ref r_before, .ref r_asIs, .int 0, .ref r_tape, .int 0, .int 0, .int 0, .ref r_begins, .ref r_kinds, .int 0, .ref r_field, .ref r_willTeach, .ref r_isBack, .ref r_told, .ref r_bestSeats, .ref r_firstSeats, .int 0, .int 0, .int 0, .int 0, .int 0, .int 0, .int 0, .int 0, .int 0, .ref r_restLearn, .ref r_marksNow, .ref r_row, .int 1, .int 0])), (r_refused, .inl (cI, 7, .inl (fun _ => 0))), (r_row, .inl (cI, 6, .inl (upd (fun _ => 0) 0 a)))] H := hP
      have hD : va_D A [(h0, .inr (6, [.ref r_refused, .ref r_now, .ref r_then, .ref r_before, .ref r_asIs, .int 0, .ref r_tape, .int 0, .int 0, .int 0, .ref r_begins, .ref r_kinds, .int 0, .ref r_field, .ref r_willTeach, .ref r_isBack, .ref r_told, .ref r_bestSeats, .ref r_firstSeats, .int 0, .int 0, .int 0, .int 0, .int 0, .int 0, .int 0, .int 0, .int 0, .ref r_restLearn, .ref r_marksNow, .ref r_row, .int 1, .int 0])), (r_refused, .inl (cI, 7, .inl (fun _ => 0))), (r_row, .inl (cI, 6, .inl (upd (fun _ => 0) 0 a)))] := hD
      refine lv_aload_n hx hb dX8_row_53 rfl (lv_at hl 0 rfl) ?_
      refine va_get (D := (dC, dI)) (ci := 6) (v := .int 1) (C := RX8) (T := TX8) (N := 33) hx hb hts iX8 hown hK hP 0 rfl rfl 31 (by decide) (hts (.fieldLink RX8 178 "NeighboursMarkModel" "rows" "I") (by decide +kernel)) (fun _ h9 => h9) rfl dX8_row_54 ?_
      exact vx_iret (u := ()) hx hb hr hlocks hK hP hD hS [] rfl (by decide) (zz_m_row_1 a c1 c2) dX8_row_57
  · skip
    refine lv_aload_n hx hb dX8_row_4 rfl (lv_at hl 0 rfl) ?_
    refine lv_bipush (v := (-4)) hx hb dX8_row_5 (by decide) ?_
    have hPc := hP.sub (ws' := [(h0, .inr (6, [.ref r_refused, .ref r_now, .ref r_then, .ref r_before, .ref r_asIs, .int 0, .ref r_tape, .int 0, .int 0, .int 0, .ref r_begins, .ref r_kinds, .int 0, .ref r_field, .ref r_willTeach, .ref r_isBack, .ref r_told, .ref r_bestSeats, .ref r_firstSeats, .int 0, .int 0, .int 0, .int 0, .int 0, .int 0, .int 0, .int 0, .int 0, .ref r_restLearn, .ref r_marksNow, .ref r_row, .int 0, .int 0])), (r_refused, .inl (cI, 7, .inl (fun _ => 0)))]) [0, 1] rfl
    have hDc := hD.sub (ws' := [(h0, .inr (6, [.ref r_refused, .ref r_now, .ref r_then, .ref r_before, .ref r_asIs, .int 0, .ref r_tape, .int 0, .int 0, .int 0, .ref r_begins, .ref r_kinds, .int 0, .ref r_field, .ref r_willTeach, .ref r_isBack, .ref r_told, .ref r_bestSeats, .ref r_firstSeats, .int 0, .int 0, .int 0, .int 0, .int 0, .int 0, .int 0, .int 0, .int 0, .ref r_restLearn, .ref r_marksNow, .ref r_row, .int 0, .int 0])), (r_refused, .inl (cI, 7, .inl (fun _ => 0)))]) [0, 1] (by decide) rfl
    refine vx_calli (wc := [(h0, .inr (6, [.ref r_refused, .ref r_now, .ref r_then, .ref r_before, .ref r_asIs, .int 0, .ref r_tape, .int 0, .int 0, .int 0, .ref r_begins, .ref r_kinds, .int 0, .ref r_field, .ref r_willTeach, .ref r_isBack, .ref r_told, .ref r_bestSeats, .ref r_firstSeats, .int 0, .int 0, .int 0, .int 0, .int 0, .int 0, .int 0, .int 0, .int 0, .ref r_restLearn, .ref r_marksNow, .ref r_row, .int 0, .int 0])), (r_refused, .inl (cI, 7, .inl (fun _ => 0)))]) (wr := [(r_row, .inl (cI, 6, .inl (fun _ => 0)))]) hP hD hS hA [0, 1] [2] rfl rfl (by decide) (by decide) (va_runV (As := [.int (-4)]) (rest := []) ⟨hx, hb, hml, hown, hts⟩ (r_no4 l dC dI cI cC cZ _ h0 r_refused r_now r_then r_before r_asIs r_tape r_begins r_kinds r_field r_willTeach r_isBack r_told r_bestSeats r_firstSeats r_restLearn r_marksNow r_row 0 0 0 0 0 0 0 0 0 0 0 0 0 0 0 0 0 (fun _ => 0) rfl) (cwV 1 hts gX8_row_X8_no rfl rfl rfl (by decide +kernel) ⟨Nat.le_of_ble_eq_true rfl, Nat.le_of_ble_eq_true rfl⟩) ⟨vx_blind, va_recv hK hPc (ci := 6) (q0 := 0) rfl rfl, vx_pre hK hPc hDc⟩ rfl rfl hl.1 rfl (lv_room (Nat.le_of_ble_eq_true rfl)) dX8_row_7 ⟨Nat.le_of_ble_eq_true rfl, Nat.le_of_ble_eq_true rfl⟩) (fun r8 u7 H locs hw9 hP hD hS => ?_)
    have hP : va_P (dC, dI) vwCl [(r_row, .inl (cI, 6, .inl (fun _ => 0))), (h0, .inr (6, [.ref r_refused, .ref r_now, .ref r_then, .ref r_before, .ref r_asIs, .int 0, .ref r_tape, .int 0, .int 0, .int 0, .ref r_begins, .ref r_kinds, .int 0, .ref r_field, .ref r_willTeach, .ref r_isBack, .ref r_told, .ref r_bestSeats, .ref r_firstSeats, .int 0, .int 0, .int 0, .int 0, .int 0, .int 0, .int 0, .int 0, .int 0, .ref r_restLearn, .ref r_marksNow, .ref r_row, .int 0, .int 0])), (r_refused, .inl (cI, 7, .inl (upd (fun _ => 0) 4 1)))] H := hP
    have hD : va_D A [(r_row, .inl (cI, 6, .inl (fun _ => 0))), (h0, .inr (6, [.ref r_refused, .ref r_now, .ref r_then, .ref r_before, .ref r_asIs, .int 0, .ref r_tape, .int 0, .int 0, .int 0, .ref r_begins, .ref r_kinds, .int 0, .ref r_field, .ref r_willTeach, .ref r_isBack, .ref r_told, .ref r_bestSeats, .ref r_firstSeats, .int 0, .int 0, .int 0, .int 0, .int 0, .int 0, .int 0, .int 0, .int 0, .ref r_restLearn, .ref r_marksNow, .ref r_row, .int 0, .int 0])), (r_refused, .inl (cI, 7, .inl (upd (fun _ => 0) 4 1)))] := hD
    have er8 : (-4) = r8 := Eq.symm hw9
    subst er8
    exact vx_iret (u := ()) hx hb hr hlocks hK hP hD hS [] rfl (by decide) (zz_m_row_2 a c1) dX8_row_10
theorem zz_m_fitting_0 (a : Int32) (h0 : ((-1) : Int32) ≤ a) (h1 : (0 : Int32) ≤ a) (h2 : ¬ (0 : Int32) ≤ a) : False := by
  have e0 : ((-1) : Int32).toInt = -1 := by decide
  have e1 : (0 : Int32).toInt = 0 := by decide
  try simp only [Int32.lt_iff_toInt_lt, Int32.le_iff_toInt_le, ← Int32.toInt_inj, e0, e1] at h0
  try simp only [Int32.lt_iff_toInt_lt, Int32.le_iff_toInt_le, ← Int32.toInt_inj, e0, e1] at h1
  try simp only [Int32.lt_iff_toInt_lt, Int32.le_iff_toInt_le, ← Int32.toInt_inj, e0, e1] at h2
  omega
theorem zz_m_fitting_1 (a : Int32) (h0 : ((-1) : Int32) ≤ a) (h1 : (0 : Int32) ≤ a) (h2 : (0 : Int32) ≤ a) : ((-9) : Int32) = f_fitting a := by
  have e0 : ((-9) : Int32).toInt = -9 := by decide
  have e1 : ((-4) : Int32).toInt = -4 := by decide
  have e2 : ((-1) : Int32).toInt = -1 := by decide
  have e3 : (0 : Int32).toInt = 0 := by decide
  have e4 : (1 : Int32).toInt = 1 := by decide
  have e5 : (32 : Int32).toInt = 32 := by decide
  unfold f_fitting
  (repeat' split) <;> first | rfl | (exfalso; simp only [Int32.lt_iff_toInt_lt, Int32.le_iff_toInt_le, ← Int32.toInt_inj, e0, e1, e2, e3, e4, e5] at * <;> omega)
theorem zz_m_fitting_2 (a : Int32) (h0 : ((-1) : Int32) ≤ a) (h1 : ¬ (0 : Int32) ≤ a) : (1 : Int32) = f_fitting a := by
  have e0 : ((-9) : Int32).toInt = -9 := by decide
  have e1 : ((-4) : Int32).toInt = -4 := by decide
  have e2 : ((-1) : Int32).toInt = -1 := by decide
  have e3 : (0 : Int32).toInt = 0 := by decide
  have e4 : (1 : Int32).toInt = 1 := by decide
  have e5 : (32 : Int32).toInt = 32 := by decide
  unfold f_fitting
  (repeat' split) <;> first | rfl | (exfalso; simp only [Int32.lt_iff_toInt_lt, Int32.le_iff_toInt_le, ← Int32.toInt_inj, e0, e1, e2, e3, e4, e5] at * <;> omega)
theorem zz_m_fitting_3 (a : Int32) (h0 : ¬ ((-1) : Int32) ≤ a) : ((-4) : Int32) = f_fitting a := by
  have e0 : ((-9) : Int32).toInt = -9 := by decide
  have e1 : ((-4) : Int32).toInt = -4 := by decide
  have e2 : ((-1) : Int32).toInt = -1 := by decide
  have e3 : (0 : Int32).toInt = 0 := by decide
  have e4 : (1 : Int32).toInt = 1 := by decide
  have e5 : (32 : Int32).toInt = 32 := by decide
  unfold f_fitting
  (repeat' split) <;> first | rfl | (exfalso; simp only [Int32.lt_iff_toInt_lt, Int32.le_iff_toInt_le, ← Int32.toInt_inj, e0, e1, e2, e3, e4, e5] at * <;> omega)
set_option maxHeartbeats 4000000 in
set_option maxRecDepth 100000 in
theorem m_fitting (l : Launch) (dC : Nat → ClassId) (dI : Nat → Nat → Nat) (cI cC cZ : ClassId) (sz : Nat) (h0 r_refused r_now r_then r_before r_asIs r_tape r_begins r_kinds r_field r_willTeach r_isBack r_told r_bestSeats r_firstSeats r_restLearn r_marksNow r_row : Nat) (a : Int32) : Met l yX8_fitting wsX8_fitting ({ frames := 4, cells := 0, slots := 0, locals := 95 }) (va_Pc [.ref h0, .int a] (vx_B (dC, dI) (vx_T cI cC cZ) sz [(h0, .inr (6, [.ref r_refused, .ref r_now, .ref r_then, .ref r_before, .ref r_asIs, .int 0, .ref r_tape, .int 0, .int 0, .int 0, .ref r_begins, .ref r_kinds, .int 0, .ref r_field, .ref r_willTeach, .ref r_isBack, .ref r_told, .ref r_bestSeats, .ref r_firstSeats, .int 0, .int 0, .int 0, .int 0, .int 0, .int 0, .int 0, .int 0, .int 0, .ref r_restLearn, .ref r_marksNow, .ref r_row, .int 0, .int 0])), (r_refused, .inl (cI, 7, .inl (fun _ => 0))), (r_now, .inl (cI, 80, .inl (upd (upd (upd (upd (fun _ => 0) 1 2) 3 1) 4 10) 5 1))), (r_before, .inl (cI, 80, .inl (fun _ => 0))), (r_told, .inl (cI, 6, .inl (fun _ => 0)))])) (va_Qi (fun (r : Int32) (_ : Unit) => r = f_fitting a) (vx_C (dC, dI) (vx_T cI cC cZ) (va_A [(h0, .inr (6, [.ref r_refused, .ref r_now, .ref r_then, .ref r_before, .ref r_asIs, .int 0, .ref r_tape, .int 0, .int 0, .int 0, .ref r_begins, .ref r_kinds, .int 0, .ref r_field, .ref r_willTeach, .ref r_isBack, .ref r_told, .ref r_bestSeats, .ref r_firstSeats, .int 0, .int 0, .int 0, .int 0, .int 0, .int 0, .int 0, .int 0, .int 0, .ref r_restLearn, .ref r_marksNow, .ref r_row, .int 0, .int 0])), (r_refused, .inl (cI, 7, .inl (fun _ => 0))), (r_now, .inl (cI, 80, .inl (upd (upd (upd (upd (fun _ => 0) 1 2) 3 1) 4 10) 5 1))), (r_before, .inl (cI, 80, .inl (fun _ => 0))), (r_told, .inl (cI, 6, .inl (fun _ => 0)))] sz) (fun (u : Unit) => [])) (va_A [(h0, .inr (6, [.ref r_refused, .ref r_now, .ref r_then, .ref r_before, .ref r_asIs, .int 0, .ref r_tape, .int 0, .int 0, .int 0, .ref r_begins, .ref r_kinds, .int 0, .ref r_field, .ref r_willTeach, .ref r_isBack, .ref r_told, .ref r_bestSeats, .ref r_firstSeats, .int 0, .int 0, .int 0, .int 0, .int 0, .int 0, .int 0, .int 0, .int 0, .ref r_restLearn, .ref r_marksNow, .ref r_row, .int 0, .int 0])), (r_refused, .inl (cI, 7, .inl (fun _ => 0))), (r_now, .inl (cI, 80, .inl (upd (upd (upd (upd (fun _ => 0) 1 2) 3 1) 4 10) 5 1))), (r_before, .inl (cI, 80, .inl (fun _ => 0))), (r_told, .inl (cI, 6, .inl (fun _ => 0)))] sz)) 0 0 (va_A [(h0, .inr (6, [.ref r_refused, .ref r_now, .ref r_then, .ref r_before, .ref r_asIs, .int 0, .ref r_tape, .int 0, .int 0, .int 0, .ref r_begins, .ref r_kinds, .int 0, .ref r_field, .ref r_willTeach, .ref r_isBack, .ref r_told, .ref r_bestSeats, .ref r_firstSeats, .int 0, .int 0, .int 0, .int 0, .int 0, .int 0, .int 0, .int 0, .int 0, .ref r_restLearn, .ref r_marksNow, .ref r_row, .int 0, .int 0])), (r_refused, .inl (cI, 7, .inl (fun _ => 0))), (r_now, .inl (cI, 80, .inl (upd (upd (upd (upd (fun _ => 0) 1 2) 3 1) 4 10) 5 1))), (r_before, .inl (cI, 80, .inl (fun _ => 0))), (r_told, .inl (cI, 6, .inl (fun _ => 0)))] sz) := by
  refine Met.ofW (cc := cX8_fitting) (maxL := 2) (ret := (some .int)) (by decide) rfl ?_
  intro p e s m args below meth c s₁ B hml hv
  obtain ⟨rfl, hsz, hP, hK, hD0⟩ := hv
  have hx := B.exec
  have hb := B.bytes
  have hr := B.returns
  have hts := atoms_spec (ws := wsX8_fitting) B.pre
  have hown : s.vm.findClass RX8 = some m.cls := findClass_of_methodNamed B.named
  have hlocks := B.notSynchronized
  subst hsz
  have hD := hD0.self (sz := s.heap.size)
  generalize hAe : va_A [(h0, .inr (6, [.ref r_refused, .ref r_now, .ref r_then, .ref r_before, .ref r_asIs, .int 0, .ref r_tape, .int 0, .int 0, .int 0, .ref r_begins, .ref r_kinds, .int 0, .ref r_field, .ref r_willTeach, .ref r_isBack, .ref r_told, .ref r_bestSeats, .ref r_firstSeats, .int 0, .int 0, .int 0, .int 0, .int 0, .int 0, .int 0, .int 0, .int 0, .ref r_restLearn, .ref r_marksNow, .ref r_row, .int 0, .int 0])), (r_refused, .inl (cI, 7, .inl (fun _ => 0))), (r_now, .inl (cI, 80, .inl (upd (upd (upd (upd (fun _ => 0) 1 2) 3 1) 4 10) 5 1))), (r_before, .inl (cI, 80, .inl (fun _ => 0))), (r_told, .inl (cI, 6, .inl (fun _ => 0)))] s.heap.size = A at hD ⊢
  have hA : ∀ q : Nat, s.heap.size ≤ q → A q := fun q h => by rw [← hAe]; exact Or.inr h
  have hS : va_S A s.heap s.heap [] := va_S.rf
  have hl := lv_entry ([.ref h0, .int a]) (n := 2) (Nat.le_of_ble_eq_true rfl)
  rw [lg_entry_eq]
  generalize (lg_sl ([.ref h0, .int a]) ++ List.replicate (2 - (lg_sl ([.ref h0, .int a])).length) Slot.unset).toArray = ls at hl ⊢
  have hl : lv_has ls 2 [(0, .ref h0), (1, .int a)] := hl
  have iX8 : ∀ w ∈ u_ws RX8 TX8 33, w ∈ wsX8_fitting := by decide +kernel
  refine lv_iload_n hx hb dX8_fitting_0 rfl (lv_at hl 1 rfl) ?_
  refine lv_iconst (v := (-1)) hx hb dX8_fitting_1 (by decide) ?_
  refine lv_icmp_ge (tgt := 12) hx hb dX8_fitting_2 (by decide) (fun c1 => ?_) (fun c1 => ?_)
  · skip
    refine lv_aload_n hx hb dX8_fitting_12 rfl (lv_at hl 0 rfl) ?_
    refine va_get (D := (dC, dI)) (ci := 6) (v := .int 0) (C := RX8) (T := TX8) (N := 33) hx hb hts iX8 hown hK hP 0 rfl rfl 31 (by decide) (hts (.fieldLink RX8 178 "NeighboursMarkModel" "rows" "I") (by decide +kernel)) (fun _ h9 => h9) rfl dX8_fitting_13 ?_
    refine lv_aload_n hx hb dX8_fitting_16 rfl (lv_at hl 0 rfl) ?_
    refine va_get (D := (dC, dI)) (ci := 6) (v := .ref r_now) (C := RX8) (T := TX8) (N := 33) hx hb hts iX8 hown hK hP 0 rfl rfl 1 (by decide) (hts (.fieldLink RX8 13 "NeighboursMarkModel" "now" "[I") (by decide +kernel)) (fun _ h9 => h9) rfl dX8_fitting_17 ?_
    refine lv_iconst (v := 0) hx hb dX8_fitting_20 (by decide) ?_
    refine va_iald hx hb hK hP 2 0 rfl rfl (by unfold vp_in; decide) dX8_fitting_21 ?_
    refine lv_topi (fun x2 ex2 => ?_)
    have ex2 : 0 = x2 := (ex2.trans rfl).symm
    subst ex2
    refine lv_icmp_eq (tgt := 32) hx hb dX8_fitting_22 (by decide) (fun _ => ?_) (fun c0 => absurd (by decide) c0)
    refine lv_aload_n hx hb dX8_fitting_32 rfl (lv_at hl 0 rfl) ?_
    have hPc := hP.sub (ws' := [(h0, .inr (6, [.ref r_refused, .ref r_now, .ref r_then, .ref r_before, .ref r_asIs, .int 0, .ref r_tape, .int 0, .int 0, .int 0, .ref r_begins, .ref r_kinds, .int 0, .ref r_field, .ref r_willTeach, .ref r_isBack, .ref r_told, .ref r_bestSeats, .ref r_firstSeats, .int 0, .int 0, .int 0, .int 0, .int 0, .int 0, .int 0, .int 0, .int 0, .ref r_restLearn, .ref r_marksNow, .ref r_row, .int 0, .int 0])), (r_now, .inl (cI, 80, .inl (upd (upd (upd (upd (fun _ => 0) 1 2) 3 1) 4 10) 5 1))), (r_before, .inl (cI, 80, .inl (fun _ => 0))), (r_told, .inl (cI, 6, .inl (fun _ => 0)))]) [0, 2, 3, 4] rfl
    have hDc := hD.sub (ws' := [(h0, .inr (6, [.ref r_refused, .ref r_now, .ref r_then, .ref r_before, .ref r_asIs, .int 0, .ref r_tape, .int 0, .int 0, .int 0, .ref r_begins, .ref r_kinds, .int 0, .ref r_field, .ref r_willTeach, .ref r_isBack, .ref r_told, .ref r_bestSeats, .ref r_firstSeats, .int 0, .int 0, .int 0, .int 0, .int 0, .int 0, .int 0, .int 0, .int 0, .ref r_restLearn, .ref r_marksNow, .ref r_row, .int 0, .int 0])), (r_now, .inl (cI, 80, .inl (upd (upd (upd (upd (fun _ => 0) 1 2) 3 1) 4 10) 5 1))), (r_before, .inl (cI, 80, .inl (fun _ => 0))), (r_told, .inl (cI, 6, .inl (fun _ => 0)))]) [0, 2, 3, 4] (by decide) rfl
    refine vx_callv (wc := [(h0, .inr (6, [.ref r_refused, .ref r_now, .ref r_then, .ref r_before, .ref r_asIs, .int 0, .ref r_tape, .int 0, .int 0, .int 0, .ref r_begins, .ref r_kinds, .int 0, .ref r_field, .ref r_willTeach, .ref r_isBack, .ref r_told, .ref r_bestSeats, .ref r_firstSeats, .int 0, .int 0, .int 0, .int 0, .int 0, .int 0, .int 0, .int 0, .int 0, .ref r_restLearn, .ref r_marksNow, .ref r_row, .int 0, .int 0])), (r_now, .inl (cI, 80, .inl (upd (upd (upd (upd (fun _ => 0) 1 2) 3 1) 4 10) 5 1))), (r_before, .inl (cI, 80, .inl (fun _ => 0))), (r_told, .inl (cI, 6, .inl (fun _ => 0)))]) (wr := [(r_refused, .inl (cI, 7, .inl (fun _ => 0)))]) hP hD hS hA [0, 2, 3, 4] [1] rfl rfl (by decide) (by decide) (va_runV (As := []) (rest := []) ⟨hx, hb, hml, hown, hts⟩ (r_allSeatings l dC dI cI cC cZ _ h0 r_refused r_now r_then r_before r_asIs r_tape r_begins r_kinds r_field r_willTeach r_isBack r_told r_bestSeats r_firstSeats r_restLearn r_marksNow r_row 0 0 0 0 0 0 0 0 0 0 0 0 0 0 0 (upd (upd (upd (upd (fun _ => 0) 1 2) 3 1) 4 10) 5 1) (fun _ => 0) (fun _ => 0) rfl rfl) (cwV 0 hts gX8_fitting_X8_allSeatings rfl rfl rfl (by decide +kernel) ⟨Nat.le_of_ble_eq_true rfl, Nat.le_of_ble_eq_true rfl⟩) ⟨vx_blind, va_recv hK hPc (ci := 6) (q0 := 0) rfl rfl, vx_pre hK hPc hDc⟩ rfl rfl hl.1 rfl (lv_room (Nat.le_of_ble_eq_true rfl)) dX8_fitting_33 ⟨Nat.le_of_ble_eq_true rfl, Nat.le_of_ble_eq_true rfl⟩) (fun u3 H locs hw5 hP hD hS => ?_)
    have hP : va_P (dC, dI) vwCl [(r_refused, .inl (cI, 7, .inl (fun _ => 0))), (h0, .inr (6, [.ref r_refused, .ref r_now, .ref r_then, .ref r_before, .ref r_asIs, .int 0, .ref r_tape, .int 0, .int 0, .int 0, .ref r_begins, .ref r_kinds, .int 0, .ref r_field, .ref r_willTeach, .ref r_isBack, .ref r_told, .ref r_bestSeats, .ref r_firstSeats, .int 0, .int 0, .int 0, .int 1, .int 0, .int 0, .int 0, .int 0, .int 0, .ref r_restLearn, .ref r_marksNow, .ref r_row, .int 0, .int 0])), (r_now, .inl (cI, 80, .inl (va_cpy (va_cpy (upd (upd (upd (upd (fun _ => 0) 1 2) 3 1) 4 10) 5 1) (fun _ => 0) 0 0 80) (upd (upd (upd (upd (fun _ => 0) 1 2) 3 1) 4 10) 5 1) 0 0 80)))] H := hP
    have hD : va_D A [(r_refused, .inl (cI, 7, .inl (fun _ => 0))), (h0, .inr (6, [.ref r_refused, .ref r_now, .ref r_then, .ref r_before, .ref r_asIs, .int 0, .ref r_tape, .int 0, .int 0, .int 0, .ref r_begins, .ref r_kinds, .int 0, .ref r_field, .ref r_willTeach, .ref r_isBack, .ref r_told, .ref r_bestSeats, .ref r_firstSeats, .int 0, .int 0, .int 0, .int 1, .int 0, .int 0, .int 0, .int 0, .int 0, .ref r_restLearn, .ref r_marksNow, .ref r_row, .int 0, .int 0])), (r_now, .inl (cI, 80, .inl (va_cpy (va_cpy (upd (upd (upd (upd (fun _ => 0) 1 2) 3 1) 4 10) 5 1) (fun _ => 0) 0 0 80) (upd (upd (upd (upd (fun _ => 0) 1 2) 3 1) 4 10) 5 1) 0 0 80)))] := hD
    refine lv_iload_n hx hb dX8_fitting_36 rfl (lv_at hl 1 rfl) ?_
    refine lv_if_ge (tgt := 47) hx hb dX8_fitting_37 (by decide) (fun c6 => ?_) (fun c6 => ?_)
    · skip
      refine lv_aload_n hx hb dX8_fitting_47 rfl (lv_at hl 0 rfl) ?_
      refine va_get (D := (dC, dI)) (ci := 6) (v := .int 1) (C := RX8) (T := TX8) (N := 33) hx hb hts iX8 hown hK hP 1 rfl rfl 22 (by decide) (hts (.fieldLink RX8 163 "NeighboursMarkModel" "fits" "I") (by decide +kernel)) (fun _ h9 => h9) rfl dX8_fitting_48 ?_
      refine lv_if_le (tgt := 73) hx hb dX8_fitting_51 (by decide) (fun c0 => absurd c0 (by decide)) (fun _ => ?_)
      refine lv_iload_n hx hb dX8_fitting_54 rfl (lv_at hl 1 rfl) ?_
      refine lv_aload_n hx hb dX8_fitting_55 rfl (lv_at hl 0 rfl) ?_
      refine va_get (D := (dC, dI)) (ci := 6) (v := .ref r_now) (C := RX8) (T := TX8) (N := 33) hx hb hts iX8 hown hK hP 1 rfl rfl 1 (by decide) (hts (.fieldLink RX8 13 "NeighboursMarkModel" "now" "[I") (by decide +kernel)) (fun _ h9 => h9) rfl dX8_fitting_56 ?_
      refine lv_iconst (v := 0) hx hb dX8_fitting_59 (by decide) ?_
      refine va_iald hx hb hK hP 2 0 rfl rfl (by unfold vp_in; decide) dX8_fitting_60 ?_
      refine lv_topi (fun x7 ex7 => ?_)
      have ex7 : 0 = x7 := (ex7.trans rfl).symm
      subst ex7
      refine lv_icmp_ge (tgt := 73) hx hb dX8_fitting_61 (by decide) (fun c8 => ?_) (fun c8 => (zz_m_fitting_0 a c1 c6 c8).elim)
      refine lv_bipush (v := (-9)) hx hb dX8_fitting_73 (by decide) ?_
      exact vx_iret (u := ()) hx hb hr hlocks hK hP hD hS [] rfl (by decide) (zz_m_fitting_1 a c1 c6 c8) dX8_fitting_75
    · skip
      refine lv_aload_n hx hb dX8_fitting_40 rfl (lv_at hl 0 rfl) ?_
      refine va_get (D := (dC, dI)) (ci := 6) (v := .int 1) (C := RX8) (T := TX8) (N := 33) hx hb hts iX8 hown hK hP 1 rfl rfl 22 (by decide) (hts (.fieldLink RX8 163 "NeighboursMarkModel" "fits" "I") (by decide +kernel)) (fun _ h9 => h9) rfl dX8_fitting_41 ?_
      refine lv_goto (tgt := 75) hx hb dX8_fitting_44 (by decide) ?_
      exact vx_iret (u := ()) hx hb hr hlocks hK hP hD hS [] rfl (by decide) (zz_m_fitting_2 a c1 c6) dX8_fitting_75
  · skip
    refine lv_aload_n hx hb dX8_fitting_5 rfl (lv_at hl 0 rfl) ?_
    refine lv_bipush (v := (-4)) hx hb dX8_fitting_6 (by decide) ?_
    have hPc := hP.sub (ws' := [(h0, .inr (6, [.ref r_refused, .ref r_now, .ref r_then, .ref r_before, .ref r_asIs, .int 0, .ref r_tape, .int 0, .int 0, .int 0, .ref r_begins, .ref r_kinds, .int 0, .ref r_field, .ref r_willTeach, .ref r_isBack, .ref r_told, .ref r_bestSeats, .ref r_firstSeats, .int 0, .int 0, .int 0, .int 0, .int 0, .int 0, .int 0, .int 0, .int 0, .ref r_restLearn, .ref r_marksNow, .ref r_row, .int 0, .int 0])), (r_refused, .inl (cI, 7, .inl (fun _ => 0)))]) [0, 1] rfl
    have hDc := hD.sub (ws' := [(h0, .inr (6, [.ref r_refused, .ref r_now, .ref r_then, .ref r_before, .ref r_asIs, .int 0, .ref r_tape, .int 0, .int 0, .int 0, .ref r_begins, .ref r_kinds, .int 0, .ref r_field, .ref r_willTeach, .ref r_isBack, .ref r_told, .ref r_bestSeats, .ref r_firstSeats, .int 0, .int 0, .int 0, .int 0, .int 0, .int 0, .int 0, .int 0, .int 0, .ref r_restLearn, .ref r_marksNow, .ref r_row, .int 0, .int 0])), (r_refused, .inl (cI, 7, .inl (fun _ => 0)))]) [0, 1] (by decide) rfl
    refine vx_calli (wc := [(h0, .inr (6, [.ref r_refused, .ref r_now, .ref r_then, .ref r_before, .ref r_asIs, .int 0, .ref r_tape, .int 0, .int 0, .int 0, .ref r_begins, .ref r_kinds, .int 0, .ref r_field, .ref r_willTeach, .ref r_isBack, .ref r_told, .ref r_bestSeats, .ref r_firstSeats, .int 0, .int 0, .int 0, .int 0, .int 0, .int 0, .int 0, .int 0, .int 0, .ref r_restLearn, .ref r_marksNow, .ref r_row, .int 0, .int 0])), (r_refused, .inl (cI, 7, .inl (fun _ => 0)))]) (wr := [(r_now, .inl (cI, 80, .inl (upd (upd (upd (upd (fun _ => 0) 1 2) 3 1) 4 10) 5 1))), (r_before, .inl (cI, 80, .inl (fun _ => 0))), (r_told, .inl (cI, 6, .inl (fun _ => 0)))]) hP hD hS hA [0, 1] [2, 3, 4] rfl rfl (by decide) (by decide) (va_runV (As := [.int (-4)]) (rest := []) ⟨hx, hb, hml, hown, hts⟩ (r_no4 l dC dI cI cC cZ _ h0 r_refused r_now r_then r_before r_asIs r_tape r_begins r_kinds r_field r_willTeach r_isBack r_told r_bestSeats r_firstSeats r_restLearn r_marksNow r_row 0 0 0 0 0 0 0 0 0 0 0 0 0 0 0 0 0 (fun _ => 0) rfl) (cwV 1 hts gX8_fitting_X8_no rfl rfl rfl (by decide +kernel) ⟨Nat.le_of_ble_eq_true rfl, Nat.le_of_ble_eq_true rfl⟩) ⟨vx_blind, va_recv hK hPc (ci := 6) (q0 := 0) rfl rfl, vx_pre hK hPc hDc⟩ rfl rfl hl.1 rfl (lv_room (Nat.le_of_ble_eq_true rfl)) dX8_fitting_8 ⟨Nat.le_of_ble_eq_true rfl, Nat.le_of_ble_eq_true rfl⟩) (fun r10 u9 H locs hw11 hP hD hS => ?_)
    have hP : va_P (dC, dI) vwCl [(r_now, .inl (cI, 80, .inl (upd (upd (upd (upd (fun _ => 0) 1 2) 3 1) 4 10) 5 1))), (r_before, .inl (cI, 80, .inl (fun _ => 0))), (r_told, .inl (cI, 6, .inl (fun _ => 0))), (h0, .inr (6, [.ref r_refused, .ref r_now, .ref r_then, .ref r_before, .ref r_asIs, .int 0, .ref r_tape, .int 0, .int 0, .int 0, .ref r_begins, .ref r_kinds, .int 0, .ref r_field, .ref r_willTeach, .ref r_isBack, .ref r_told, .ref r_bestSeats, .ref r_firstSeats, .int 0, .int 0, .int 0, .int 0, .int 0, .int 0, .int 0, .int 0, .int 0, .ref r_restLearn, .ref r_marksNow, .ref r_row, .int 0, .int 0])), (r_refused, .inl (cI, 7, .inl (upd (fun _ => 0) 4 1)))] H := hP
    have hD : va_D A [(r_now, .inl (cI, 80, .inl (upd (upd (upd (upd (fun _ => 0) 1 2) 3 1) 4 10) 5 1))), (r_before, .inl (cI, 80, .inl (fun _ => 0))), (r_told, .inl (cI, 6, .inl (fun _ => 0))), (h0, .inr (6, [.ref r_refused, .ref r_now, .ref r_then, .ref r_before, .ref r_asIs, .int 0, .ref r_tape, .int 0, .int 0, .int 0, .ref r_begins, .ref r_kinds, .int 0, .ref r_field, .ref r_willTeach, .ref r_isBack, .ref r_told, .ref r_bestSeats, .ref r_firstSeats, .int 0, .int 0, .int 0, .int 0, .int 0, .int 0, .int 0, .int 0, .int 0, .ref r_restLearn, .ref r_marksNow, .ref r_row, .int 0, .int 0])), (r_refused, .inl (cI, 7, .inl (upd (fun _ => 0) 4 1)))] := hD
    have er10 : (-4) = r10 := Eq.symm hw11
    subst er10
    exact vx_iret (u := ()) hx hb hr hlocks hK hP hD hS [] rfl (by decide) (zz_m_fitting_3 a c1) dX8_fitting_11
set_option maxHeartbeats 4000000 in
set_option maxRecDepth 100000 in
theorem m_forged (l : Launch) (dC : Nat → ClassId) (dI : Nat → Nat → Nat) (cI cC cZ : ClassId) (sz : Nat) (h0 r_refused r_now r_then r_before r_asIs r_tape r_begins r_kinds r_field r_willTeach r_isBack r_told r_bestSeats r_firstSeats r_restLearn r_marksNow r_row : Nat) : Met l yX8_forged wsX8_forged ({ frames := 4, cells := 0, slots := 0, locals := 95 }) (va_Pc [.ref h0] (vx_B (dC, dI) (vx_T cI cC cZ) sz [(h0, .inr (6, [.ref r_refused, .ref r_now, .ref r_then, .ref r_before, .ref r_asIs, .int 0, .ref r_tape, .int 0, .int 0, .int 0, .ref r_begins, .ref r_kinds, .int 0, .ref r_field, .ref r_willTeach, .ref r_isBack, .ref r_told, .ref r_bestSeats, .ref r_firstSeats, .int 0, .int 0, .int 0, .int 0, .int 0, .int 0, .int 0, .int 0, .int 0, .ref r_restLearn, .ref r_marksNow, .ref r_row, .int 0, .int 0])), (r_refused, .inl (cI, 7, .inl (fun _ => 0))), (r_now, .inl (cI, 80, .inl (upd (upd (upd (upd (fun _ => 0) 1 2) 3 1) 4 10) 5 1))), (r_before, .inl (cI, 80, .inl (fun _ => 0))), (r_told, .inl (cI, 6, .inl (fun _ => 0)))])) (va_Qi (fun (r : Int32) (_ : Unit) => r = 0) (vx_C (dC, dI) (vx_T cI cC cZ) (va_A [(h0, .inr (6, [.ref r_refused, .ref r_now, .ref r_then, .ref r_before, .ref r_asIs, .int 0, .ref r_tape, .int 0, .int 0, .int 0, .ref r_begins, .ref r_kinds, .int 0, .ref r_field, .ref r_willTeach, .ref r_isBack, .ref r_told, .ref r_bestSeats, .ref r_firstSeats, .int 0, .int 0, .int 0, .int 0, .int 0, .int 0, .int 0, .int 0, .int 0, .ref r_restLearn, .ref r_marksNow, .ref r_row, .int 0, .int 0])), (r_refused, .inl (cI, 7, .inl (fun _ => 0))), (r_now, .inl (cI, 80, .inl (upd (upd (upd (upd (fun _ => 0) 1 2) 3 1) 4 10) 5 1))), (r_before, .inl (cI, 80, .inl (fun _ => 0))), (r_told, .inl (cI, 6, .inl (fun _ => 0)))] sz) (fun (u : Unit) => [])) (va_A [(h0, .inr (6, [.ref r_refused, .ref r_now, .ref r_then, .ref r_before, .ref r_asIs, .int 0, .ref r_tape, .int 0, .int 0, .int 0, .ref r_begins, .ref r_kinds, .int 0, .ref r_field, .ref r_willTeach, .ref r_isBack, .ref r_told, .ref r_bestSeats, .ref r_firstSeats, .int 0, .int 0, .int 0, .int 0, .int 0, .int 0, .int 0, .int 0, .int 0, .ref r_restLearn, .ref r_marksNow, .ref r_row, .int 0, .int 0])), (r_refused, .inl (cI, 7, .inl (fun _ => 0))), (r_now, .inl (cI, 80, .inl (upd (upd (upd (upd (fun _ => 0) 1 2) 3 1) 4 10) 5 1))), (r_before, .inl (cI, 80, .inl (fun _ => 0))), (r_told, .inl (cI, 6, .inl (fun _ => 0)))] sz)) 0 0 (va_A [(h0, .inr (6, [.ref r_refused, .ref r_now, .ref r_then, .ref r_before, .ref r_asIs, .int 0, .ref r_tape, .int 0, .int 0, .int 0, .ref r_begins, .ref r_kinds, .int 0, .ref r_field, .ref r_willTeach, .ref r_isBack, .ref r_told, .ref r_bestSeats, .ref r_firstSeats, .int 0, .int 0, .int 0, .int 0, .int 0, .int 0, .int 0, .int 0, .int 0, .ref r_restLearn, .ref r_marksNow, .ref r_row, .int 0, .int 0])), (r_refused, .inl (cI, 7, .inl (fun _ => 0))), (r_now, .inl (cI, 80, .inl (upd (upd (upd (upd (fun _ => 0) 1 2) 3 1) 4 10) 5 1))), (r_before, .inl (cI, 80, .inl (fun _ => 0))), (r_told, .inl (cI, 6, .inl (fun _ => 0)))] sz) := by
  refine Met.ofW (cc := cX8_forged) (maxL := 1) (ret := (some .int)) (by decide) rfl ?_
  intro p e s m args below meth c s₁ B hml hv
  obtain ⟨rfl, hsz, hP, hK, hD0⟩ := hv
  have hx := B.exec
  have hb := B.bytes
  have hr := B.returns
  have hts := atoms_spec (ws := wsX8_forged) B.pre
  have hown : s.vm.findClass RX8 = some m.cls := findClass_of_methodNamed B.named
  have hlocks := B.notSynchronized
  subst hsz
  have hD := hD0.self (sz := s.heap.size)
  generalize hAe : va_A [(h0, .inr (6, [.ref r_refused, .ref r_now, .ref r_then, .ref r_before, .ref r_asIs, .int 0, .ref r_tape, .int 0, .int 0, .int 0, .ref r_begins, .ref r_kinds, .int 0, .ref r_field, .ref r_willTeach, .ref r_isBack, .ref r_told, .ref r_bestSeats, .ref r_firstSeats, .int 0, .int 0, .int 0, .int 0, .int 0, .int 0, .int 0, .int 0, .int 0, .ref r_restLearn, .ref r_marksNow, .ref r_row, .int 0, .int 0])), (r_refused, .inl (cI, 7, .inl (fun _ => 0))), (r_now, .inl (cI, 80, .inl (upd (upd (upd (upd (fun _ => 0) 1 2) 3 1) 4 10) 5 1))), (r_before, .inl (cI, 80, .inl (fun _ => 0))), (r_told, .inl (cI, 6, .inl (fun _ => 0)))] s.heap.size = A at hD ⊢
  have hA : ∀ q : Nat, s.heap.size ≤ q → A q := fun q h => by rw [← hAe]; exact Or.inr h
  have hS : va_S A s.heap s.heap [] := va_S.rf
  have hl := lv_entry ([.ref h0]) (n := 1) (Nat.le_of_ble_eq_true rfl)
  rw [lg_entry_eq]
  generalize (lg_sl ([.ref h0]) ++ List.replicate (1 - (lg_sl ([.ref h0])).length) Slot.unset).toArray = ls at hl ⊢
  have hl : lv_has ls 1 [(0, .ref h0)] := hl
  have iX8 : ∀ w ∈ u_ws RX8 TX8 33, w ∈ wsX8_forged := by decide +kernel
  refine lv_aload_n hx hb dX8_forged_0 rfl (lv_at hl 0 rfl) ?_
  refine va_get (D := (dC, dI)) (ci := 6) (v := .int 0) (C := RX8) (T := TX8) (N := 33) hx hb hts iX8 hown hK hP 0 rfl rfl 31 (by decide) (hts (.fieldLink RX8 178 "NeighboursMarkModel" "rows" "I") (by decide +kernel)) (fun _ h9 => h9) rfl dX8_forged_1 ?_
  refine lv_aload_n hx hb dX8_forged_4 rfl (lv_at hl 0 rfl) ?_
  refine va_get (D := (dC, dI)) (ci := 6) (v := .ref r_now) (C := RX8) (T := TX8) (N := 33) hx hb hts iX8 hown hK hP 0 rfl rfl 1 (by decide) (hts (.fieldLink RX8 13 "NeighboursMarkModel" "now" "[I") (by decide +kernel)) (fun _ h9 => h9) rfl dX8_forged_5 ?_
  refine lv_iconst (v := 0) hx hb dX8_forged_8 (by decide) ?_
  refine va_iald hx hb hK hP 2 0 rfl rfl (by unfold vp_in; decide) dX8_forged_9 ?_
  refine lv_topi (fun x1 ex1 => ?_)
  have ex1 : 0 = x1 := (ex1.trans rfl).symm
  subst ex1
  refine lv_icmp_eq (tgt := 20) hx hb dX8_forged_10 (by decide) (fun _ => ?_) (fun c0 => absurd (by decide) c0)
  refine lv_aload_n hx hb dX8_forged_20 rfl (lv_at hl 0 rfl) ?_
  have hPc := hP.sub (ws' := [(h0, .inr (6, [.ref r_refused, .ref r_now, .ref r_then, .ref r_before, .ref r_asIs, .int 0, .ref r_tape, .int 0, .int 0, .int 0, .ref r_begins, .ref r_kinds, .int 0, .ref r_field, .ref r_willTeach, .ref r_isBack, .ref r_told, .ref r_bestSeats, .ref r_firstSeats, .int 0, .int 0, .int 0, .int 0, .int 0, .int 0, .int 0, .int 0, .int 0, .ref r_restLearn, .ref r_marksNow, .ref r_row, .int 0, .int 0])), (r_now, .inl (cI, 80, .inl (upd (upd (upd (upd (fun _ => 0) 1 2) 3 1) 4 10) 5 1))), (r_before, .inl (cI, 80, .inl (fun _ => 0))), (r_told, .inl (cI, 6, .inl (fun _ => 0)))]) [0, 2, 3, 4] rfl
  have hDc := hD.sub (ws' := [(h0, .inr (6, [.ref r_refused, .ref r_now, .ref r_then, .ref r_before, .ref r_asIs, .int 0, .ref r_tape, .int 0, .int 0, .int 0, .ref r_begins, .ref r_kinds, .int 0, .ref r_field, .ref r_willTeach, .ref r_isBack, .ref r_told, .ref r_bestSeats, .ref r_firstSeats, .int 0, .int 0, .int 0, .int 0, .int 0, .int 0, .int 0, .int 0, .int 0, .ref r_restLearn, .ref r_marksNow, .ref r_row, .int 0, .int 0])), (r_now, .inl (cI, 80, .inl (upd (upd (upd (upd (fun _ => 0) 1 2) 3 1) 4 10) 5 1))), (r_before, .inl (cI, 80, .inl (fun _ => 0))), (r_told, .inl (cI, 6, .inl (fun _ => 0)))]) [0, 2, 3, 4] (by decide) rfl
  refine vx_callv (wc := [(h0, .inr (6, [.ref r_refused, .ref r_now, .ref r_then, .ref r_before, .ref r_asIs, .int 0, .ref r_tape, .int 0, .int 0, .int 0, .ref r_begins, .ref r_kinds, .int 0, .ref r_field, .ref r_willTeach, .ref r_isBack, .ref r_told, .ref r_bestSeats, .ref r_firstSeats, .int 0, .int 0, .int 0, .int 0, .int 0, .int 0, .int 0, .int 0, .int 0, .ref r_restLearn, .ref r_marksNow, .ref r_row, .int 0, .int 0])), (r_now, .inl (cI, 80, .inl (upd (upd (upd (upd (fun _ => 0) 1 2) 3 1) 4 10) 5 1))), (r_before, .inl (cI, 80, .inl (fun _ => 0))), (r_told, .inl (cI, 6, .inl (fun _ => 0)))]) (wr := [(r_refused, .inl (cI, 7, .inl (fun _ => 0)))]) hP hD hS hA [0, 2, 3, 4] [1] rfl rfl (by decide) (by decide) (va_runV (As := []) (rest := []) ⟨hx, hb, hml, hown, hts⟩ (r_allSeatings l dC dI cI cC cZ _ h0 r_refused r_now r_then r_before r_asIs r_tape r_begins r_kinds r_field r_willTeach r_isBack r_told r_bestSeats r_firstSeats r_restLearn r_marksNow r_row 0 0 0 0 0 0 0 0 0 0 0 0 0 0 0 (upd (upd (upd (upd (fun _ => 0) 1 2) 3 1) 4 10) 5 1) (fun _ => 0) (fun _ => 0) rfl rfl) (cwV 0 hts gX8_forged_X8_allSeatings rfl rfl rfl (by decide +kernel) ⟨Nat.le_of_ble_eq_true rfl, Nat.le_of_ble_eq_true rfl⟩) ⟨vx_blind, va_recv hK hPc (ci := 6) (q0 := 0) rfl rfl, vx_pre hK hPc hDc⟩ rfl rfl hl.1 rfl (lv_room (Nat.le_of_ble_eq_true rfl)) dX8_forged_21 ⟨Nat.le_of_ble_eq_true rfl, Nat.le_of_ble_eq_true rfl⟩) (fun u2 H locs hw4 hP hD hS => ?_)
  have hP : va_P (dC, dI) vwCl [(r_refused, .inl (cI, 7, .inl (fun _ => 0))), (h0, .inr (6, [.ref r_refused, .ref r_now, .ref r_then, .ref r_before, .ref r_asIs, .int 0, .ref r_tape, .int 0, .int 0, .int 0, .ref r_begins, .ref r_kinds, .int 0, .ref r_field, .ref r_willTeach, .ref r_isBack, .ref r_told, .ref r_bestSeats, .ref r_firstSeats, .int 0, .int 0, .int 0, .int 1, .int 0, .int 0, .int 0, .int 0, .int 0, .ref r_restLearn, .ref r_marksNow, .ref r_row, .int 0, .int 0])), (r_now, .inl (cI, 80, .inl (va_cpy (va_cpy (upd (upd (upd (upd (fun _ => 0) 1 2) 3 1) 4 10) 5 1) (fun _ => 0) 0 0 80) (upd (upd (upd (upd (fun _ => 0) 1 2) 3 1) 4 10) 5 1) 0 0 80)))] H := hP
  have hD : va_D A [(r_refused, .inl (cI, 7, .inl (fun _ => 0))), (h0, .inr (6, [.ref r_refused, .ref r_now, .ref r_then, .ref r_before, .ref r_asIs, .int 0, .ref r_tape, .int 0, .int 0, .int 0, .ref r_begins, .ref r_kinds, .int 0, .ref r_field, .ref r_willTeach, .ref r_isBack, .ref r_told, .ref r_bestSeats, .ref r_firstSeats, .int 0, .int 0, .int 0, .int 1, .int 0, .int 0, .int 0, .int 0, .int 0, .ref r_restLearn, .ref r_marksNow, .ref r_row, .int 0, .int 0])), (r_now, .inl (cI, 80, .inl (va_cpy (va_cpy (upd (upd (upd (upd (fun _ => 0) 1 2) 3 1) 4 10) 5 1) (fun _ => 0) 0 0 80) (upd (upd (upd (upd (fun _ => 0) 1 2) 3 1) 4 10) 5 1) 0 0 80)))] := hD
  refine lv_aload_n hx hb dX8_forged_24 rfl (lv_at hl 0 rfl) ?_
  refine va_get (D := (dC, dI)) (ci := 6) (v := .int 0) (C := RX8) (T := TX8) (N := 33) hx hb hts iX8 hown hK hP 1 rfl rfl 23 (by decide) (hts (.fieldLink RX8 169 "NeighboursMarkModel" "mayBeForged" "I") (by decide +kernel)) (fun _ h9 => h9) rfl dX8_forged_25 ?_
  exact vx_iret (u := ()) hx hb hr hlocks hK hP hD hS [] rfl (by decide) rfl dX8_forged_28
set_option maxHeartbeats 4000000 in
set_option maxRecDepth 100000 in
theorem m_judge (l : Launch) (dC : Nat → ClassId) (dI : Nat → Nat → Nat) (cI cC cZ : ClassId) (sz : Nat) (h0 r_refused r_now r_then r_before r_asIs r_tape r_begins r_kinds r_field r_willTeach r_isBack r_told r_bestSeats r_firstSeats r_restLearn r_marksNow r_row : Nat) : Met l yX8_judge wsX8_judge ({ frames := 0, cells := 0, slots := 0, locals := 0 }) (va_Pc [.ref h0] (vx_B (dC, dI) (vx_T cI cC cZ) sz [(h0, .inr (6, [.ref r_refused, .ref r_now, .ref r_then, .ref r_before, .ref r_asIs, .int 0, .ref r_tape, .int 0, .int 0, .int 0, .ref r_begins, .ref r_kinds, .int 0, .ref r_field, .ref r_willTeach, .ref r_isBack, .ref r_told, .ref r_bestSeats, .ref r_firstSeats, .int 0, .int 0, .int 0, .int 0, .int 0, .int 0, .int 0, .int 0, .int 0, .ref r_restLearn, .ref r_marksNow, .ref r_row, .int 0, .int 0])), (r_now, .inl (cI, 80, .inl (upd (upd (upd (upd (fun _ => 0) 1 2) 3 1) 4 10) 5 1)))])) (va_Qi (fun (r : Int32) (_ : Unit) => r = (-9)) (vx_C (dC, dI) (vx_T cI cC cZ) (va_A [(h0, .inr (6, [.ref r_refused, .ref r_now, .ref r_then, .ref r_before, .ref r_asIs, .int 0, .ref r_tape, .int 0, .int 0, .int 0, .ref r_begins, .ref r_kinds, .int 0, .ref r_field, .ref r_willTeach, .ref r_isBack, .ref r_told, .ref r_bestSeats, .ref r_firstSeats, .int 0, .int 0, .int 0, .int 0, .int 0, .int 0, .int 0, .int 0, .int 0, .ref r_restLearn, .ref r_marksNow, .ref r_row, .int 0, .int 0])), (r_now, .inl (cI, 80, .inl (upd (upd (upd (upd (fun _ => 0) 1 2) 3 1) 4 10) 5 1)))] sz) (fun (u : Unit) => [])) (va_A [(h0, .inr (6, [.ref r_refused, .ref r_now, .ref r_then, .ref r_before, .ref r_asIs, .int 0, .ref r_tape, .int 0, .int 0, .int 0, .ref r_begins, .ref r_kinds, .int 0, .ref r_field, .ref r_willTeach, .ref r_isBack, .ref r_told, .ref r_bestSeats, .ref r_firstSeats, .int 0, .int 0, .int 0, .int 0, .int 0, .int 0, .int 0, .int 0, .int 0, .ref r_restLearn, .ref r_marksNow, .ref r_row, .int 0, .int 0])), (r_now, .inl (cI, 80, .inl (upd (upd (upd (upd (fun _ => 0) 1 2) 3 1) 4 10) 5 1)))] sz)) 0 0 (va_A [(h0, .inr (6, [.ref r_refused, .ref r_now, .ref r_then, .ref r_before, .ref r_asIs, .int 0, .ref r_tape, .int 0, .int 0, .int 0, .ref r_begins, .ref r_kinds, .int 0, .ref r_field, .ref r_willTeach, .ref r_isBack, .ref r_told, .ref r_bestSeats, .ref r_firstSeats, .int 0, .int 0, .int 0, .int 0, .int 0, .int 0, .int 0, .int 0, .int 0, .ref r_restLearn, .ref r_marksNow, .ref r_row, .int 0, .int 0])), (r_now, .inl (cI, 80, .inl (upd (upd (upd (upd (fun _ => 0) 1 2) 3 1) 4 10) 5 1)))] sz) := by
  refine Met.ofW (cc := cX8_judge) (maxL := 3) (ret := (some .int)) (by decide) rfl ?_
  intro p e s m args below meth c s₁ B hml hv
  obtain ⟨rfl, hsz, hP, hK, hD0⟩ := hv
  have hx := B.exec
  have hb := B.bytes
  have hr := B.returns
  have hts := atoms_spec (ws := wsX8_judge) B.pre
  have hown : s.vm.findClass RX8 = some m.cls := findClass_of_methodNamed B.named
  have hlocks := B.notSynchronized
  subst hsz
  have hD := hD0.self (sz := s.heap.size)
  generalize hAe : va_A [(h0, .inr (6, [.ref r_refused, .ref r_now, .ref r_then, .ref r_before, .ref r_asIs, .int 0, .ref r_tape, .int 0, .int 0, .int 0, .ref r_begins, .ref r_kinds, .int 0, .ref r_field, .ref r_willTeach, .ref r_isBack, .ref r_told, .ref r_bestSeats, .ref r_firstSeats, .int 0, .int 0, .int 0, .int 0, .int 0, .int 0, .int 0, .int 0, .int 0, .ref r_restLearn, .ref r_marksNow, .ref r_row, .int 0, .int 0])), (r_now, .inl (cI, 80, .inl (upd (upd (upd (upd (fun _ => 0) 1 2) 3 1) 4 10) 5 1)))] s.heap.size = A at hD ⊢
  have hA : ∀ q : Nat, s.heap.size ≤ q → A q := fun q h => by rw [← hAe]; exact Or.inr h
  have hS : va_S A s.heap s.heap [] := va_S.rf
  have hl := lv_entry ([.ref h0]) (n := 3) (Nat.le_of_ble_eq_true rfl)
  rw [lg_entry_eq]
  generalize (lg_sl ([.ref h0]) ++ List.replicate (3 - (lg_sl ([.ref h0])).length) Slot.unset).toArray = ls at hl ⊢
  have hl : lv_has ls 3 [(0, .ref h0)] := hl
  have iX8 : ∀ w ∈ u_ws RX8 TX8 33, w ∈ wsX8_judge := by decide +kernel
  refine lv_aload_n hx hb dX8_judge_0 rfl (lv_at hl 0 rfl) ?_
  refine va_get (D := (dC, dI)) (ci := 6) (v := .int 0) (C := RX8) (T := TX8) (N := 33) hx hb hts iX8 hown hK hP 0 rfl rfl 31 (by decide) (hts (.fieldLink RX8 178 "NeighboursMarkModel" "rows" "I") (by decide +kernel)) (fun _ h9 => h9) rfl dX8_judge_1 ?_
  refine lv_istore_n (lv' := [(1, .int 0), (0, .ref h0)]) hx hb dX8_judge_4 rfl hl (by decide) rfl (fun ls hl => ?_)
  refine lv_aload_n hx hb dX8_judge_5 rfl (lv_at hl 1 rfl) ?_
  refine lv_iconst (v := 0) hx hb dX8_judge_6 (by decide) ?_
  refine va_put (D := (dC, dI)) (ci := 6) (v := .int 0) (ty := .int) (C := RX8) (T := TX8) (N := 33) hx hb hts iX8 tyX8 tyX8_ok nmX8 hown hK hP hD hS 0 rfl rfl 31 (by decide) (hts (.fieldLink RX8 178 "NeighboursMarkModel" "rows" "I") (by decide +kernel)) (fun _ h9 => h9) rfl (by decide +kernel) rfl rfl (Nat.le_of_ble_eq_true rfl) dX8_judge_7 (fun H locs hP hD hS => ?_)
  have hP : va_P (dC, dI) vwCl [(h0, .inr (6, [.ref r_refused, .ref r_now, .ref r_then, .ref r_before, .ref r_asIs, .int 0, .ref r_tape, .int 0, .int 0, .int 0, .ref r_begins, .ref r_kinds, .int 0, .ref r_field, .ref r_willTeach, .ref r_isBack, .ref r_told, .ref r_bestSeats, .ref r_firstSeats, .int 0, .int 0, .int 0, .int 0, .int 0, .int 0, .int 0, .int 0, .int 0, .ref r_restLearn, .ref r_marksNow, .ref r_row, .int 0, .int 0])), (r_now, .inl (cI, 80, .inl (upd (upd (upd (upd (fun _ => 0) 1 2) 3 1) 4 10) 5 1)))] H := hP
  have hD : va_D A [(h0, .inr (6, [.ref r_refused, .ref r_now, .ref r_then, .ref r_before, .ref r_asIs, .int 0, .ref r_tape, .int 0, .int 0, .int 0, .ref r_begins, .ref r_kinds, .int 0, .ref r_field, .ref r_willTeach, .ref r_isBack, .ref r_told, .ref r_bestSeats, .ref r_firstSeats, .int 0, .int 0, .int 0, .int 0, .int 0, .int 0, .int 0, .int 0, .int 0, .ref r_restLearn, .ref r_marksNow, .ref r_row, .int 0, .int 0])), (r_now, .inl (cI, 80, .inl (upd (upd (upd (upd (fun _ => 0) 1 2) 3 1) 4 10) 5 1)))] := hD
  refine lv_iconst (v := 0) hx hb dX8_judge_10 (by decide) ?_
  refine lv_istore_n (lv' := [(2, .int 0), (1, .int 0), (0, .ref h0)]) hx hb dX8_judge_11 rfl hl (by decide) rfl (fun ls hl => ?_)
  refine lv_iload_n hx hb dX8_judge_12 rfl (lv_at hl 0 rfl) ?_
  refine lv_iload_n hx hb dX8_judge_13 rfl (lv_at hl 1 rfl) ?_
  refine lv_icmp_ge (tgt := 57) hx hb dX8_judge_14 (by decide) (fun _ => ?_) (fun c0 => absurd (by decide) c0)
  refine lv_iload_n hx hb dX8_judge_57 rfl (lv_at hl 1 rfl) ?_
  refine lv_aload_n hx hb dX8_judge_58 rfl (lv_at hl 2 rfl) ?_
  refine va_get (D := (dC, dI)) (ci := 6) (v := .ref r_now) (C := RX8) (T := TX8) (N := 33) hx hb hts iX8 hown hK hP 0 rfl rfl 1 (by decide) (hts (.fieldLink RX8 13 "NeighboursMarkModel" "now" "[I") (by decide +kernel)) (fun _ h9 => h9) rfl dX8_judge_59 ?_
  refine lv_iconst (v := 0) hx hb dX8_judge_62 (by decide) ?_
  refine va_iald hx hb hK hP 1 0 rfl rfl (by unfold vp_in; decide) dX8_judge_63 ?_
  refine lv_topi (fun x1 ex1 => ?_)
  have ex1 : 0 = x1 := (ex1.trans rfl).symm
  subst ex1
  refine lv_icmp_ge (tgt := 71) hx hb dX8_judge_64 (by decide) (fun _ => ?_) (fun c0 => absurd (by decide) c0)
  refine lv_bipush (v := (-9)) hx hb dX8_judge_71 (by decide) ?_
  exact vx_iret (u := ()) hx hb hr hlocks hK hP hD hS [] rfl (by decide) rfl dX8_judge_73
theorem zz_m_seeds_0 (a : Int32) (h0 : (1 : Int32) ≤ a) (h1 : a ≤ (20 : Int32)) : ((-3) : Int32) = f_seeds a := by
  have e0 : ((-6) : Int32).toInt = -6 := by decide
  have e1 : ((-4) : Int32).toInt = -4 := by decide
  have e2 : ((-3) : Int32).toInt = -3 := by decide
  have e3 : (0 : Int32).toInt = 0 := by decide
  have e4 : (1 : Int32).toInt = 1 := by decide
  have e5 : (20 : Int32).toInt = 20 := by decide
  have e6 : (32 : Int32).toInt = 32 := by decide
  unfold f_seeds
  (repeat' split) <;> first | rfl | (exfalso; simp only [Int32.lt_iff_toInt_lt, Int32.le_iff_toInt_le, ← Int32.toInt_inj, e0, e1, e2, e3, e4, e5, e6] at * <;> omega)
theorem zz_m_seeds_1 (a : Int32) (h0 : (1 : Int32) ≤ a) (h1 : ¬ a ≤ (20 : Int32)) : ((-6) : Int32) = f_seeds a := by
  have e0 : ((-6) : Int32).toInt = -6 := by decide
  have e1 : ((-4) : Int32).toInt = -4 := by decide
  have e2 : ((-3) : Int32).toInt = -3 := by decide
  have e3 : (0 : Int32).toInt = 0 := by decide
  have e4 : (1 : Int32).toInt = 1 := by decide
  have e5 : (20 : Int32).toInt = 20 := by decide
  have e6 : (32 : Int32).toInt = 32 := by decide
  unfold f_seeds
  (repeat' split) <;> first | rfl | (exfalso; simp only [Int32.lt_iff_toInt_lt, Int32.le_iff_toInt_le, ← Int32.toInt_inj, e0, e1, e2, e3, e4, e5, e6] at * <;> omega)
theorem zz_m_seeds_2 (a : Int32) (h0 : ¬ (1 : Int32) ≤ a) : ((-4) : Int32) = f_seeds a := by
  have e0 : ((-6) : Int32).toInt = -6 := by decide
  have e1 : ((-4) : Int32).toInt = -4 := by decide
  have e2 : ((-3) : Int32).toInt = -3 := by decide
  have e3 : (0 : Int32).toInt = 0 := by decide
  have e4 : (1 : Int32).toInt = 1 := by decide
  have e5 : (20 : Int32).toInt = 20 := by decide
  have e6 : (32 : Int32).toInt = 32 := by decide
  unfold f_seeds
  (repeat' split) <;> first | rfl | (exfalso; simp only [Int32.lt_iff_toInt_lt, Int32.le_iff_toInt_le, ← Int32.toInt_inj, e0, e1, e2, e3, e4, e5, e6] at * <;> omega)
set_option maxHeartbeats 4000000 in
set_option maxRecDepth 100000 in
theorem m_seeds (l : Launch) (dC : Nat → ClassId) (dI : Nat → Nat → Nat) (cI cC cZ : ClassId) (sz : Nat) (h0 r_refused r_now r_then r_before r_asIs r_tape r_begins r_kinds r_field r_willTeach r_isBack r_told r_bestSeats r_firstSeats r_restLearn r_marksNow r_row : Nat) (a b : Int32) : Met l yX8_seeds wsX8_seeds ({ frames := 1, cells := 0, slots := 0, locals := 21 }) (va_Pc [.ref h0, .int a, .int b] (vx_B (dC, dI) (vx_T cI cC cZ) sz [(h0, .inr (6, [.ref r_refused, .ref r_now, .ref r_then, .ref r_before, .ref r_asIs, .int 0, .ref r_tape, .int 0, .int 0, .int 0, .ref r_begins, .ref r_kinds, .int 0, .ref r_field, .ref r_willTeach, .ref r_isBack, .ref r_told, .ref r_bestSeats, .ref r_firstSeats, .int 0, .int 0, .int 0, .int 0, .int 0, .int 0, .int 0, .int 0, .int 0, .ref r_restLearn, .ref r_marksNow, .ref r_row, .int 0, .int 0])), (r_refused, .inl (cI, 7, .inl (fun _ => 0))), (r_now, .inl (cI, 80, .inl (upd (upd (upd (upd (fun _ => 0) 1 2) 3 1) 4 10) 5 1)))])) (va_Qi (fun (r : Int32) (_ : Unit) => r = f_seeds a) (vx_C (dC, dI) (vx_T cI cC cZ) (va_A [(h0, .inr (6, [.ref r_refused, .ref r_now, .ref r_then, .ref r_before, .ref r_asIs, .int 0, .ref r_tape, .int 0, .int 0, .int 0, .ref r_begins, .ref r_kinds, .int 0, .ref r_field, .ref r_willTeach, .ref r_isBack, .ref r_told, .ref r_bestSeats, .ref r_firstSeats, .int 0, .int 0, .int 0, .int 0, .int 0, .int 0, .int 0, .int 0, .int 0, .ref r_restLearn, .ref r_marksNow, .ref r_row, .int 0, .int 0])), (r_refused, .inl (cI, 7, .inl (fun _ => 0))), (r_now, .inl (cI, 80, .inl (upd (upd (upd (upd (fun _ => 0) 1 2) 3 1) 4 10) 5 1)))] sz) (fun (u : Unit) => [])) (va_A [(h0, .inr (6, [.ref r_refused, .ref r_now, .ref r_then, .ref r_before, .ref r_asIs, .int 0, .ref r_tape, .int 0, .int 0, .int 0, .ref r_begins, .ref r_kinds, .int 0, .ref r_field, .ref r_willTeach, .ref r_isBack, .ref r_told, .ref r_bestSeats, .ref r_firstSeats, .int 0, .int 0, .int 0, .int 0, .int 0, .int 0, .int 0, .int 0, .int 0, .ref r_restLearn, .ref r_marksNow, .ref r_row, .int 0, .int 0])), (r_refused, .inl (cI, 7, .inl (fun _ => 0))), (r_now, .inl (cI, 80, .inl (upd (upd (upd (upd (fun _ => 0) 1 2) 3 1) 4 10) 5 1)))] sz)) 0 0 (va_A [(h0, .inr (6, [.ref r_refused, .ref r_now, .ref r_then, .ref r_before, .ref r_asIs, .int 0, .ref r_tape, .int 0, .int 0, .int 0, .ref r_begins, .ref r_kinds, .int 0, .ref r_field, .ref r_willTeach, .ref r_isBack, .ref r_told, .ref r_bestSeats, .ref r_firstSeats, .int 0, .int 0, .int 0, .int 0, .int 0, .int 0, .int 0, .int 0, .int 0, .ref r_restLearn, .ref r_marksNow, .ref r_row, .int 0, .int 0])), (r_refused, .inl (cI, 7, .inl (fun _ => 0))), (r_now, .inl (cI, 80, .inl (upd (upd (upd (upd (fun _ => 0) 1 2) 3 1) 4 10) 5 1)))] sz) := by
  refine Met.ofW (cc := cX8_seeds) (maxL := 7) (ret := (some .int)) (by decide) rfl ?_
  intro p e s m args below meth c s₁ B hml hv
  obtain ⟨rfl, hsz, hP, hK, hD0⟩ := hv
  have hx := B.exec
  have hb := B.bytes
  have hr := B.returns
  have hts := atoms_spec (ws := wsX8_seeds) B.pre
  have hown : s.vm.findClass RX8 = some m.cls := findClass_of_methodNamed B.named
  have hlocks := B.notSynchronized
  subst hsz
  have hD := hD0.self (sz := s.heap.size)
  generalize hAe : va_A [(h0, .inr (6, [.ref r_refused, .ref r_now, .ref r_then, .ref r_before, .ref r_asIs, .int 0, .ref r_tape, .int 0, .int 0, .int 0, .ref r_begins, .ref r_kinds, .int 0, .ref r_field, .ref r_willTeach, .ref r_isBack, .ref r_told, .ref r_bestSeats, .ref r_firstSeats, .int 0, .int 0, .int 0, .int 0, .int 0, .int 0, .int 0, .int 0, .int 0, .ref r_restLearn, .ref r_marksNow, .ref r_row, .int 0, .int 0])), (r_refused, .inl (cI, 7, .inl (fun _ => 0))), (r_now, .inl (cI, 80, .inl (upd (upd (upd (upd (fun _ => 0) 1 2) 3 1) 4 10) 5 1)))] s.heap.size = A at hD ⊢
  have hA : ∀ q : Nat, s.heap.size ≤ q → A q := fun q h => by rw [← hAe]; exact Or.inr h
  have hS : va_S A s.heap s.heap [] := va_S.rf
  have hl := lv_entry ([.ref h0, .int a, .int b]) (n := 7) (Nat.le_of_ble_eq_true rfl)
  rw [lg_entry_eq]
  generalize (lg_sl ([.ref h0, .int a, .int b]) ++ List.replicate (7 - (lg_sl ([.ref h0, .int a, .int b])).length) Slot.unset).toArray = ls at hl ⊢
  have hl : lv_has ls 7 [(0, .ref h0), (1, .int a), (2, .int b)] := hl
  have iX8 : ∀ w ∈ u_ws RX8 TX8 33, w ∈ wsX8_seeds := by decide +kernel
  refine lv_iload_n hx hb dX8_seeds_0 rfl (lv_at hl 1 rfl) ?_
  refine lv_iconst (v := 1) hx hb dX8_seeds_1 (by decide) ?_
  refine lv_icmp_ge (tgt := 12) hx hb dX8_seeds_2 (by decide) (fun c1 => ?_) (fun c1 => ?_)
  · skip
    refine lv_iload_n hx hb dX8_seeds_12 rfl (lv_at hl 1 rfl) ?_
    refine lv_bipush (v := 20) hx hb dX8_seeds_13 (by decide) ?_
    refine lv_icmp_le (tgt := 25) hx hb dX8_seeds_15 (by decide) (fun c2 => ?_) (fun c2 => ?_)
    · skip
      refine lv_aload_n hx hb dX8_seeds_25 rfl (lv_at hl 0 rfl) ?_
      refine va_get (D := (dC, dI)) (ci := 6) (v := .ref r_now) (C := RX8) (T := TX8) (N := 33) hx hb hts iX8 hown hK hP 0 rfl rfl 1 (by decide) (hts (.fieldLink RX8 13 "NeighboursMarkModel" "now" "[I") (by decide +kernel)) (fun _ h9 => h9) rfl dX8_seeds_26 ?_
      refine lv_iconst (v := 0) hx hb dX8_seeds_29 (by decide) ?_
      refine va_iald hx hb hK hP 2 0 rfl rfl (by unfold vp_in; decide) dX8_seeds_30 ?_
      refine lv_topi (fun x3 ex3 => ?_)
      have ex3 : 0 = x3 := (ex3.trans rfl).symm
      subst ex3
      refine lv_if_ne (tgt := 41) hx hb dX8_seeds_31 (by decide) (fun c0 => absurd (by decide) c0) (fun _ => ?_)
      refine lv_aload_n hx hb dX8_seeds_34 rfl (lv_at hl 0 rfl) ?_
      refine lv_bipush (v := (-3)) hx hb dX8_seeds_35 (by decide) ?_
      have hPc := hP.sub (ws' := [(h0, .inr (6, [.ref r_refused, .ref r_now, .ref r_then, .ref r_before, .ref r_asIs, .int 0, .ref r_tape, .int 0, .int 0, .int 0, .ref r_begins, .ref r_kinds, .int 0, .ref r_field, .ref r_willTeach, .ref r_isBack, .ref r_told, .ref r_bestSeats, .ref r_firstSeats, .int 0, .int 0, .int 0, .int 0, .int 0, .int 0, .int 0, .int 0, .int 0, .ref r_restLearn, .ref r_marksNow, .ref r_row, .int 0, .int 0])), (r_refused, .inl (cI, 7, .inl (fun _ => 0)))]) [0, 1] rfl
      have hDc := hD.sub (ws' := [(h0, .inr (6, [.ref r_refused, .ref r_now, .ref r_then, .ref r_before, .ref r_asIs, .int 0, .ref r_tape, .int 0, .int 0, .int 0, .ref r_begins, .ref r_kinds, .int 0, .ref r_field, .ref r_willTeach, .ref r_isBack, .ref r_told, .ref r_bestSeats, .ref r_firstSeats, .int 0, .int 0, .int 0, .int 0, .int 0, .int 0, .int 0, .int 0, .int 0, .ref r_restLearn, .ref r_marksNow, .ref r_row, .int 0, .int 0])), (r_refused, .inl (cI, 7, .inl (fun _ => 0)))]) [0, 1] (by decide) rfl
      refine vx_calli (wc := [(h0, .inr (6, [.ref r_refused, .ref r_now, .ref r_then, .ref r_before, .ref r_asIs, .int 0, .ref r_tape, .int 0, .int 0, .int 0, .ref r_begins, .ref r_kinds, .int 0, .ref r_field, .ref r_willTeach, .ref r_isBack, .ref r_told, .ref r_bestSeats, .ref r_firstSeats, .int 0, .int 0, .int 0, .int 0, .int 0, .int 0, .int 0, .int 0, .int 0, .ref r_restLearn, .ref r_marksNow, .ref r_row, .int 0, .int 0])), (r_refused, .inl (cI, 7, .inl (fun _ => 0)))]) (wr := [(r_now, .inl (cI, 80, .inl (upd (upd (upd (upd (fun _ => 0) 1 2) 3 1) 4 10) 5 1)))]) hP hD hS hA [0, 1] [2] rfl rfl (by decide) (by decide) (va_runV (As := [.int (-3)]) (rest := []) ⟨hx, hb, hml, hown, hts⟩ (r_no3 l dC dI cI cC cZ _ h0 r_refused r_now r_then r_before r_asIs r_tape r_begins r_kinds r_field r_willTeach r_isBack r_told r_bestSeats r_firstSeats r_restLearn r_marksNow r_row 0 0 0 0 0 0 0 0 0 0 0 0 0 0 0 0 0 (fun _ => 0) rfl) (cwV 1 hts gX8_seeds_X8_no rfl rfl rfl (by decide +kernel) ⟨Nat.le_of_ble_eq_true rfl, Nat.le_of_ble_eq_true rfl⟩) ⟨vx_blind, va_recv hK hPc (ci := 6) (q0 := 0) rfl rfl, vx_pre hK hPc hDc⟩ rfl rfl hl.1 rfl (lv_room (Nat.le_of_ble_eq_true rfl)) dX8_seeds_37 ⟨Nat.le_of_ble_eq_true rfl, Nat.le_of_ble_eq_true rfl⟩) (fun r5 u4 H locs hw6 hP hD hS => ?_)
      have hP : va_P (dC, dI) vwCl [(r_now, .inl (cI, 80, .inl (upd (upd (upd (upd (fun _ => 0) 1 2) 3 1) 4 10) 5 1))), (h0, .inr (6, [.ref r_refused, .ref r_now, .ref r_then, .ref r_before, .ref r_asIs, .int 0, .ref r_tape, .int 0, .int 0, .int 0, .ref r_begins, .ref r_kinds, .int 0, .ref r_field, .ref r_willTeach, .ref r_isBack, .ref r_told, .ref r_bestSeats, .ref r_firstSeats, .int 0, .int 0, .int 0, .int 0, .int 0, .int 0, .int 0, .int 0, .int 0, .ref r_restLearn, .ref r_marksNow, .ref r_row, .int 0, .int 0])), (r_refused, .inl (cI, 7, .inl (upd (fun _ => 0) 3 1)))] H := hP
      have hD : va_D A [(r_now, .inl (cI, 80, .inl (upd (upd (upd (upd (fun _ => 0) 1 2) 3 1) 4 10) 5 1))), (h0, .inr (6, [.ref r_refused, .ref r_now, .ref r_then, .ref r_before, .ref r_asIs, .int 0, .ref r_tape, .int 0, .int 0, .int 0, .ref r_begins, .ref r_kinds, .int 0, .ref r_field, .ref r_willTeach, .ref r_isBack, .ref r_told, .ref r_bestSeats, .ref r_firstSeats, .int 0, .int 0, .int 0, .int 0, .int 0, .int 0, .int 0, .int 0, .int 0, .ref r_restLearn, .ref r_marksNow, .ref r_row, .int 0, .int 0])), (r_refused, .inl (cI, 7, .inl (upd (fun _ => 0) 3 1)))] := hD
      have er5 : (-3) = r5 := Eq.symm hw6
      subst er5
      exact vx_iret (u := ()) hx hb hr hlocks hK hP hD hS [] rfl (by decide) (zz_m_seeds_0 a c1 c2) dX8_seeds_40
    · skip
      refine lv_aload_n hx hb dX8_seeds_18 rfl (lv_at hl 0 rfl) ?_
      refine lv_bipush (v := (-6)) hx hb dX8_seeds_19 (by decide) ?_
      have hPc := hP.sub (ws' := [(h0, .inr (6, [.ref r_refused, .ref r_now, .ref r_then, .ref r_before, .ref r_asIs, .int 0, .ref r_tape, .int 0, .int 0, .int 0, .ref r_begins, .ref r_kinds, .int 0, .ref r_field, .ref r_willTeach, .ref r_isBack, .ref r_told, .ref r_bestSeats, .ref r_firstSeats, .int 0, .int 0, .int 0, .int 0, .int 0, .int 0, .int 0, .int 0, .int 0, .ref r_restLearn, .ref r_marksNow, .ref r_row, .int 0, .int 0])), (r_refused, .inl (cI, 7, .inl (fun _ => 0)))]) [0, 1] rfl
      have hDc := hD.sub (ws' := [(h0, .inr (6, [.ref r_refused, .ref r_now, .ref r_then, .ref r_before, .ref r_asIs, .int 0, .ref r_tape, .int 0, .int 0, .int 0, .ref r_begins, .ref r_kinds, .int 0, .ref r_field, .ref r_willTeach, .ref r_isBack, .ref r_told, .ref r_bestSeats, .ref r_firstSeats, .int 0, .int 0, .int 0, .int 0, .int 0, .int 0, .int 0, .int 0, .int 0, .ref r_restLearn, .ref r_marksNow, .ref r_row, .int 0, .int 0])), (r_refused, .inl (cI, 7, .inl (fun _ => 0)))]) [0, 1] (by decide) rfl
      refine vx_calli (wc := [(h0, .inr (6, [.ref r_refused, .ref r_now, .ref r_then, .ref r_before, .ref r_asIs, .int 0, .ref r_tape, .int 0, .int 0, .int 0, .ref r_begins, .ref r_kinds, .int 0, .ref r_field, .ref r_willTeach, .ref r_isBack, .ref r_told, .ref r_bestSeats, .ref r_firstSeats, .int 0, .int 0, .int 0, .int 0, .int 0, .int 0, .int 0, .int 0, .int 0, .ref r_restLearn, .ref r_marksNow, .ref r_row, .int 0, .int 0])), (r_refused, .inl (cI, 7, .inl (fun _ => 0)))]) (wr := [(r_now, .inl (cI, 80, .inl (upd (upd (upd (upd (fun _ => 0) 1 2) 3 1) 4 10) 5 1)))]) hP hD hS hA [0, 1] [2] rfl rfl (by decide) (by decide) (va_runV (As := [.int (-6)]) (rest := []) ⟨hx, hb, hml, hown, hts⟩ (r_no6 l dC dI cI cC cZ _ h0 r_refused r_now r_then r_before r_asIs r_tape r_begins r_kinds r_field r_willTeach r_isBack r_told r_bestSeats r_firstSeats r_restLearn r_marksNow r_row 0 0 0 0 0 0 0 0 0 0 0 0 0 0 0 0 0 (fun _ => 0) rfl) (cwV 1 hts gX8_seeds_X8_no rfl rfl rfl (by decide +kernel) ⟨Nat.le_of_ble_eq_true rfl, Nat.le_of_ble_eq_true rfl⟩) ⟨vx_blind, va_recv hK hPc (ci := 6) (q0 := 0) rfl rfl, vx_pre hK hPc hDc⟩ rfl rfl hl.1 rfl (lv_room (Nat.le_of_ble_eq_true rfl)) dX8_seeds_21 ⟨Nat.le_of_ble_eq_true rfl, Nat.le_of_ble_eq_true rfl⟩) (fun r8 u7 H locs hw9 hP hD hS => ?_)
      have hP : va_P (dC, dI) vwCl [(r_now, .inl (cI, 80, .inl (upd (upd (upd (upd (fun _ => 0) 1 2) 3 1) 4 10) 5 1))), (h0, .inr (6, [.ref r_refused, .ref r_now, .ref r_then, .ref r_before, .ref r_asIs, .int 0, .ref r_tape, .int 0, .int 0, .int 0, .ref r_begins, .ref r_kinds, .int 0, .ref r_field, .ref r_willTeach, .ref r_isBack, .ref r_told, .ref r_bestSeats, .ref r_firstSeats, .int 0, .int 0, .int 0, .int 0, .int 0, .int 0, .int 0, .int 0, .int 0, .ref r_restLearn, .ref r_marksNow, .ref r_row, .int 0, .int 0])), (r_refused, .inl (cI, 7, .inl (upd (fun _ => 0) 6 1)))] H := hP
      have hD : va_D A [(r_now, .inl (cI, 80, .inl (upd (upd (upd (upd (fun _ => 0) 1 2) 3 1) 4 10) 5 1))), (h0, .inr (6, [.ref r_refused, .ref r_now, .ref r_then, .ref r_before, .ref r_asIs, .int 0, .ref r_tape, .int 0, .int 0, .int 0, .ref r_begins, .ref r_kinds, .int 0, .ref r_field, .ref r_willTeach, .ref r_isBack, .ref r_told, .ref r_bestSeats, .ref r_firstSeats, .int 0, .int 0, .int 0, .int 0, .int 0, .int 0, .int 0, .int 0, .int 0, .ref r_restLearn, .ref r_marksNow, .ref r_row, .int 0, .int 0])), (r_refused, .inl (cI, 7, .inl (upd (fun _ => 0) 6 1)))] := hD
      have er8 : (-6) = r8 := Eq.symm hw9
      subst er8
      exact vx_iret (u := ()) hx hb hr hlocks hK hP hD hS [] rfl (by decide) (zz_m_seeds_1 a c1 c2) dX8_seeds_24
  · skip
    refine lv_aload_n hx hb dX8_seeds_5 rfl (lv_at hl 0 rfl) ?_
    refine lv_bipush (v := (-4)) hx hb dX8_seeds_6 (by decide) ?_
    have hPc := hP.sub (ws' := [(h0, .inr (6, [.ref r_refused, .ref r_now, .ref r_then, .ref r_before, .ref r_asIs, .int 0, .ref r_tape, .int 0, .int 0, .int 0, .ref r_begins, .ref r_kinds, .int 0, .ref r_field, .ref r_willTeach, .ref r_isBack, .ref r_told, .ref r_bestSeats, .ref r_firstSeats, .int 0, .int 0, .int 0, .int 0, .int 0, .int 0, .int 0, .int 0, .int 0, .ref r_restLearn, .ref r_marksNow, .ref r_row, .int 0, .int 0])), (r_refused, .inl (cI, 7, .inl (fun _ => 0)))]) [0, 1] rfl
    have hDc := hD.sub (ws' := [(h0, .inr (6, [.ref r_refused, .ref r_now, .ref r_then, .ref r_before, .ref r_asIs, .int 0, .ref r_tape, .int 0, .int 0, .int 0, .ref r_begins, .ref r_kinds, .int 0, .ref r_field, .ref r_willTeach, .ref r_isBack, .ref r_told, .ref r_bestSeats, .ref r_firstSeats, .int 0, .int 0, .int 0, .int 0, .int 0, .int 0, .int 0, .int 0, .int 0, .ref r_restLearn, .ref r_marksNow, .ref r_row, .int 0, .int 0])), (r_refused, .inl (cI, 7, .inl (fun _ => 0)))]) [0, 1] (by decide) rfl
    refine vx_calli (wc := [(h0, .inr (6, [.ref r_refused, .ref r_now, .ref r_then, .ref r_before, .ref r_asIs, .int 0, .ref r_tape, .int 0, .int 0, .int 0, .ref r_begins, .ref r_kinds, .int 0, .ref r_field, .ref r_willTeach, .ref r_isBack, .ref r_told, .ref r_bestSeats, .ref r_firstSeats, .int 0, .int 0, .int 0, .int 0, .int 0, .int 0, .int 0, .int 0, .int 0, .ref r_restLearn, .ref r_marksNow, .ref r_row, .int 0, .int 0])), (r_refused, .inl (cI, 7, .inl (fun _ => 0)))]) (wr := [(r_now, .inl (cI, 80, .inl (upd (upd (upd (upd (fun _ => 0) 1 2) 3 1) 4 10) 5 1)))]) hP hD hS hA [0, 1] [2] rfl rfl (by decide) (by decide) (va_runV (As := [.int (-4)]) (rest := []) ⟨hx, hb, hml, hown, hts⟩ (r_no4 l dC dI cI cC cZ _ h0 r_refused r_now r_then r_before r_asIs r_tape r_begins r_kinds r_field r_willTeach r_isBack r_told r_bestSeats r_firstSeats r_restLearn r_marksNow r_row 0 0 0 0 0 0 0 0 0 0 0 0 0 0 0 0 0 (fun _ => 0) rfl) (cwV 1 hts gX8_seeds_X8_no rfl rfl rfl (by decide +kernel) ⟨Nat.le_of_ble_eq_true rfl, Nat.le_of_ble_eq_true rfl⟩) ⟨vx_blind, va_recv hK hPc (ci := 6) (q0 := 0) rfl rfl, vx_pre hK hPc hDc⟩ rfl rfl hl.1 rfl (lv_room (Nat.le_of_ble_eq_true rfl)) dX8_seeds_8 ⟨Nat.le_of_ble_eq_true rfl, Nat.le_of_ble_eq_true rfl⟩) (fun r11 u10 H locs hw12 hP hD hS => ?_)
    have hP : va_P (dC, dI) vwCl [(r_now, .inl (cI, 80, .inl (upd (upd (upd (upd (fun _ => 0) 1 2) 3 1) 4 10) 5 1))), (h0, .inr (6, [.ref r_refused, .ref r_now, .ref r_then, .ref r_before, .ref r_asIs, .int 0, .ref r_tape, .int 0, .int 0, .int 0, .ref r_begins, .ref r_kinds, .int 0, .ref r_field, .ref r_willTeach, .ref r_isBack, .ref r_told, .ref r_bestSeats, .ref r_firstSeats, .int 0, .int 0, .int 0, .int 0, .int 0, .int 0, .int 0, .int 0, .int 0, .ref r_restLearn, .ref r_marksNow, .ref r_row, .int 0, .int 0])), (r_refused, .inl (cI, 7, .inl (upd (fun _ => 0) 4 1)))] H := hP
    have hD : va_D A [(r_now, .inl (cI, 80, .inl (upd (upd (upd (upd (fun _ => 0) 1 2) 3 1) 4 10) 5 1))), (h0, .inr (6, [.ref r_refused, .ref r_now, .ref r_then, .ref r_before, .ref r_asIs, .int 0, .ref r_tape, .int 0, .int 0, .int 0, .ref r_begins, .ref r_kinds, .int 0, .ref r_field, .ref r_willTeach, .ref r_isBack, .ref r_told, .ref r_bestSeats, .ref r_firstSeats, .int 0, .int 0, .int 0, .int 0, .int 0, .int 0, .int 0, .int 0, .int 0, .ref r_restLearn, .ref r_marksNow, .ref r_row, .int 0, .int 0])), (r_refused, .inl (cI, 7, .inl (upd (fun _ => 0) 4 1)))] := hD
    have er11 : (-4) = r11 := Eq.symm hw12
    subst er11
    exact vx_iret (u := ()) hx hb hr hlocks hK hP hD hS [] rfl (by decide) (zz_m_seeds_2 a c1) dX8_seeds_11
set_option maxHeartbeats 4000000 in
set_option maxRecDepth 100000 in
theorem m_image (l : Launch) (dC : Nat → ClassId) (dI : Nat → Nat → Nat) (cI cC cZ : ClassId) (sz : Nat) (h0 r_refused r_now r_then r_before r_asIs r_tape r_begins r_kinds r_field r_willTeach r_isBack r_told r_bestSeats r_firstSeats r_restLearn r_marksNow r_row : Nat) : Met l yX8_image wsX8_image ({ frames := 1, cells := 0, slots := 0, locals := 22 }) (va_Pc [.ref h0] (vx_B (dC, dI) (vx_T cI cC cZ) sz [(h0, .inr (6, [.ref r_refused, .ref r_now, .ref r_then, .ref r_before, .ref r_asIs, .int 0, .ref r_tape, .int 0, .int 0, .int 0, .ref r_begins, .ref r_kinds, .int 0, .ref r_field, .ref r_willTeach, .ref r_isBack, .ref r_told, .ref r_bestSeats, .ref r_firstSeats, .int 0, .int 0, .int 0, .int 0, .int 0, .int 0, .int 0, .int 0, .int 0, .ref r_restLearn, .ref r_marksNow, .ref r_row, .int 0, .int 0])), (r_now, .inl (cI, 80, .inl (upd (upd (upd (upd (fun _ => 0) 1 2) 3 1) 4 10) 5 1))), (r_then, .inl (cI, 80, .inl (fun _ => 0)))])) (va_Qi (fun (r : Int32) (_ : Unit) => r = 0) (vx_C (dC, dI) (vx_T cI cC cZ) (va_A [(h0, .inr (6, [.ref r_refused, .ref r_now, .ref r_then, .ref r_before, .ref r_asIs, .int 0, .ref r_tape, .int 0, .int 0, .int 0, .ref r_begins, .ref r_kinds, .int 0, .ref r_field, .ref r_willTeach, .ref r_isBack, .ref r_told, .ref r_bestSeats, .ref r_firstSeats, .int 0, .int 0, .int 0, .int 0, .int 0, .int 0, .int 0, .int 0, .int 0, .ref r_restLearn, .ref r_marksNow, .ref r_row, .int 0, .int 0])), (r_now, .inl (cI, 80, .inl (upd (upd (upd (upd (fun _ => 0) 1 2) 3 1) 4 10) 5 1))), (r_then, .inl (cI, 80, .inl (fun _ => 0)))] sz) (fun (u : Unit) => [])) (va_A [(h0, .inr (6, [.ref r_refused, .ref r_now, .ref r_then, .ref r_before, .ref r_asIs, .int 0, .ref r_tape, .int 0, .int 0, .int 0, .ref r_begins, .ref r_kinds, .int 0, .ref r_field, .ref r_willTeach, .ref r_isBack, .ref r_told, .ref r_bestSeats, .ref r_firstSeats, .int 0, .int 0, .int 0, .int 0, .int 0, .int 0, .int 0, .int 0, .int 0, .ref r_restLearn, .ref r_marksNow, .ref r_row, .int 0, .int 0])), (r_now, .inl (cI, 80, .inl (upd (upd (upd (upd (fun _ => 0) 1 2) 3 1) 4 10) 5 1))), (r_then, .inl (cI, 80, .inl (fun _ => 0)))] sz)) 0 0 (va_A [(h0, .inr (6, [.ref r_refused, .ref r_now, .ref r_then, .ref r_before, .ref r_asIs, .int 0, .ref r_tape, .int 0, .int 0, .int 0, .ref r_begins, .ref r_kinds, .int 0, .ref r_field, .ref r_willTeach, .ref r_isBack, .ref r_told, .ref r_bestSeats, .ref r_firstSeats, .int 0, .int 0, .int 0, .int 0, .int 0, .int 0, .int 0, .int 0, .int 0, .ref r_restLearn, .ref r_marksNow, .ref r_row, .int 0, .int 0])), (r_now, .inl (cI, 80, .inl (upd (upd (upd (upd (fun _ => 0) 1 2) 3 1) 4 10) 5 1))), (r_then, .inl (cI, 80, .inl (fun _ => 0)))] sz) := by
  refine Met.ofW (cc := cX8_image) (maxL := 1) (ret := (some .int)) (by decide) rfl ?_
  intro p e s m args below meth c s₁ B hml hv
  obtain ⟨rfl, hsz, hP, hK, hD0⟩ := hv
  have hx := B.exec
  have hb := B.bytes
  have hr := B.returns
  have hts := atoms_spec (ws := wsX8_image) B.pre
  have hown : s.vm.findClass RX8 = some m.cls := findClass_of_methodNamed B.named
  have hlocks := B.notSynchronized
  subst hsz
  have hD := hD0.self (sz := s.heap.size)
  generalize hAe : va_A [(h0, .inr (6, [.ref r_refused, .ref r_now, .ref r_then, .ref r_before, .ref r_asIs, .int 0, .ref r_tape, .int 0, .int 0, .int 0, .ref r_begins, .ref r_kinds, .int 0, .ref r_field, .ref r_willTeach, .ref r_isBack, .ref r_told, .ref r_bestSeats, .ref r_firstSeats, .int 0, .int 0, .int 0, .int 0, .int 0, .int 0, .int 0, .int 0, .int 0, .ref r_restLearn, .ref r_marksNow, .ref r_row, .int 0, .int 0])), (r_now, .inl (cI, 80, .inl (upd (upd (upd (upd (fun _ => 0) 1 2) 3 1) 4 10) 5 1))), (r_then, .inl (cI, 80, .inl (fun _ => 0)))] s.heap.size = A at hD ⊢
  have hA : ∀ q : Nat, s.heap.size ≤ q → A q := fun q h => by rw [← hAe]; exact Or.inr h
  have hS : va_S A s.heap s.heap [] := va_S.rf
  have hl := lv_entry ([.ref h0]) (n := 1) (Nat.le_of_ble_eq_true rfl)
  rw [lg_entry_eq]
  generalize (lg_sl ([.ref h0]) ++ List.replicate (1 - (lg_sl ([.ref h0])).length) Slot.unset).toArray = ls at hl ⊢
  have hl : lv_has ls 1 [(0, .ref h0)] := hl
  have iX8 : ∀ w ∈ u_ws RX8 TX8 33, w ∈ wsX8_image := by decide +kernel
  refine lv_aload_n hx hb dX8_image_0 rfl (lv_at hl 0 rfl) ?_
  refine lv_iconst (v := 1) hx hb dX8_image_1 (by decide) ?_
  refine va_put (D := (dC, dI)) (ci := 6) (v := .int 1) (ty := .boolean) (C := RX8) (T := TX8) (N := 33) hx hb hts iX8 tyX8 tyX8_ok nmX8 hown hK hP hD hS 0 rfl rfl 5 (by decide) (hts (.fieldLink RX8 63 "NeighboursMarkModel" "kept" "Z") (by decide +kernel)) (fun _ h9 => h9) rfl (by decide +kernel) rfl rfl (Nat.le_of_ble_eq_true rfl) dX8_image_2 (fun H locs hP hD hS => ?_)
  have hP : va_P (dC, dI) vwCl [(h0, .inr (6, [.ref r_refused, .ref r_now, .ref r_then, .ref r_before, .ref r_asIs, .int 1, .ref r_tape, .int 0, .int 0, .int 0, .ref r_begins, .ref r_kinds, .int 0, .ref r_field, .ref r_willTeach, .ref r_isBack, .ref r_told, .ref r_bestSeats, .ref r_firstSeats, .int 0, .int 0, .int 0, .int 0, .int 0, .int 0, .int 0, .int 0, .int 0, .ref r_restLearn, .ref r_marksNow, .ref r_row, .int 0, .int 0])), (r_now, .inl (cI, 80, .inl (upd (upd (upd (upd (fun _ => 0) 1 2) 3 1) 4 10) 5 1))), (r_then, .inl (cI, 80, .inl (fun _ => 0)))] H := hP
  have hD : va_D A [(h0, .inr (6, [.ref r_refused, .ref r_now, .ref r_then, .ref r_before, .ref r_asIs, .int 1, .ref r_tape, .int 0, .int 0, .int 0, .ref r_begins, .ref r_kinds, .int 0, .ref r_field, .ref r_willTeach, .ref r_isBack, .ref r_told, .ref r_bestSeats, .ref r_firstSeats, .int 0, .int 0, .int 0, .int 0, .int 0, .int 0, .int 0, .int 0, .int 0, .ref r_restLearn, .ref r_marksNow, .ref r_row, .int 0, .int 0])), (r_now, .inl (cI, 80, .inl (upd (upd (upd (upd (fun _ => 0) 1 2) 3 1) 4 10) 5 1))), (r_then, .inl (cI, 80, .inl (fun _ => 0)))] := hD
  refine lv_aload_n hx hb dX8_image_5 rfl (lv_at hl 0 rfl) ?_
  refine va_get (D := (dC, dI)) (ci := 6) (v := .ref r_now) (C := RX8) (T := TX8) (N := 33) hx hb hts iX8 hown hK hP 0 rfl rfl 1 (by decide) (hts (.fieldLink RX8 13 "NeighboursMarkModel" "now" "[I") (by decide +kernel)) (fun _ h9 => h9) rfl dX8_image_6 ?_
  refine lv_aload_n hx hb dX8_image_9 rfl (lv_at hl 0 rfl) ?_
  refine va_get (D := (dC, dI)) (ci := 6) (v := .ref r_then) (C := RX8) (T := TX8) (N := 33) hx hb hts iX8 hown hK hP 0 rfl rfl 2 (by decide) (hts (.fieldLink RX8 16 "NeighboursMarkModel" "then" "[I") (by decide +kernel)) (fun _ h9 => h9) rfl dX8_image_10 ?_
  have hPc := hP.sub (ws' := [(r_now, .inl (cI, 80, .inl (upd (upd (upd (upd (fun _ => 0) 1 2) 3 1) 4 10) 5 1))), (r_then, .inl (cI, 80, .inl (fun _ => 0)))]) [1, 2] rfl
  have hDc := hD.sub (ws' := [(r_now, .inl (cI, 80, .inl (upd (upd (upd (upd (fun _ => 0) 1 2) 3 1) 4 10) 5 1))), (r_then, .inl (cI, 80, .inl (fun _ => 0)))]) [1, 2] (by decide) rfl
  refine vx_callv (wc := [(r_now, .inl (cI, 80, .inl (upd (upd (upd (upd (fun _ => 0) 1 2) 3 1) 4 10) 5 1))), (r_then, .inl (cI, 80, .inl (fun _ => 0)))]) (wr := [(h0, .inr (6, [.ref r_refused, .ref r_now, .ref r_then, .ref r_before, .ref r_asIs, .int 1, .ref r_tape, .int 0, .int 0, .int 0, .ref r_begins, .ref r_kinds, .int 0, .ref r_field, .ref r_willTeach, .ref r_isBack, .ref r_told, .ref r_bestSeats, .ref r_firstSeats, .int 0, .int 0, .int 0, .int 0, .int 0, .int 0, .int 0, .int 0, .int 0, .ref r_restLearn, .ref r_marksNow, .ref r_row, .int 0, .int 0]))]) hP hD hS hA [1, 2] [0] rfl rfl (by decide) (by decide) (va_runS (As := [.ref r_now, .ref r_then]) (rest := []) ⟨hx, hb, hml, hown, hts⟩ (r_move l dC dI cI cC cZ _ r_now r_then (upd (upd (upd (upd (fun _ => 0) 1 2) 3 1) 4 10) 5 1) (fun _ => 0)) (va_cwS 2 hts gX8_image_X8_move rfl rfl rfl (by decide +kernel) ⟨Nat.le_of_ble_eq_true rfl, Nat.le_of_ble_eq_true rfl⟩) ⟨vx_blind, vx_pre hK hPc hDc⟩ rfl rfl hl.1 rfl (lv_room (Nat.le_of_ble_eq_true rfl)) dX8_image_13 ⟨Nat.le_of_ble_eq_true rfl, Nat.le_of_ble_eq_true rfl⟩) (fun u1 H locs hw3 hP hD hS => ?_)
  have hP : va_P (dC, dI) vwCl [(h0, .inr (6, [.ref r_refused, .ref r_now, .ref r_then, .ref r_before, .ref r_asIs, .int 1, .ref r_tape, .int 0, .int 0, .int 0, .ref r_begins, .ref r_kinds, .int 0, .ref r_field, .ref r_willTeach, .ref r_isBack, .ref r_told, .ref r_bestSeats, .ref r_firstSeats, .int 0, .int 0, .int 0, .int 0, .int 0, .int 0, .int 0, .int 0, .int 0, .ref r_restLearn, .ref r_marksNow, .ref r_row, .int 0, .int 0])), (r_now, .inl (cI, 80, .inl (upd (upd (upd (upd (fun _ => 0) 1 2) 3 1) 4 10) 5 1))), (r_then, .inl (cI, 80, .inl (va_cpy (upd (upd (upd (upd (fun _ => 0) 1 2) 3 1) 4 10) 5 1) (fun _ => 0) 0 0 80)))] H := hP
  have hD : va_D A [(h0, .inr (6, [.ref r_refused, .ref r_now, .ref r_then, .ref r_before, .ref r_asIs, .int 1, .ref r_tape, .int 0, .int 0, .int 0, .ref r_begins, .ref r_kinds, .int 0, .ref r_field, .ref r_willTeach, .ref r_isBack, .ref r_told, .ref r_bestSeats, .ref r_firstSeats, .int 0, .int 0, .int 0, .int 0, .int 0, .int 0, .int 0, .int 0, .int 0, .ref r_restLearn, .ref r_marksNow, .ref r_row, .int 0, .int 0])), (r_now, .inl (cI, 80, .inl (upd (upd (upd (upd (fun _ => 0) 1 2) 3 1) 4 10) 5 1))), (r_then, .inl (cI, 80, .inl (va_cpy (upd (upd (upd (upd (fun _ => 0) 1 2) 3 1) 4 10) 5 1) (fun _ => 0) 0 0 80)))] := hD
  refine lv_aload_n hx hb dX8_image_16 rfl (lv_at hl 0 rfl) ?_
  refine va_get (D := (dC, dI)) (ci := 6) (v := .ref r_now) (C := RX8) (T := TX8) (N := 33) hx hb hts iX8 hown hK hP 0 rfl rfl 1 (by decide) (hts (.fieldLink RX8 13 "NeighboursMarkModel" "now" "[I") (by decide +kernel)) (fun _ h9 => h9) rfl dX8_image_17 ?_
  refine lv_iconst (v := 2) hx hb dX8_image_20 (by decide) ?_
  refine va_iald hx hb hK hP 1 0 rfl rfl (by unfold vp_in; decide) dX8_image_21 ?_
  refine lv_topi (fun x4 ex4 => ?_)
  have ex4 : 0 = x4 := (ex4.trans rfl).symm
  subst ex4
  exact vx_iret (u := ()) hx hb hr hlocks hK hP hD hS [] rfl (by decide) rfl dX8_image_22
set_option maxHeartbeats 4000000 in
set_option maxRecDepth 100000 in
theorem m_on (l : Launch) (dC : Nat → ClassId) (dI : Nat → Nat → Nat) (cI cC cZ : ClassId) (sz : Nat) (h0 r_refused r_now r_then r_before r_asIs r_tape r_begins r_kinds r_field r_willTeach r_isBack r_told r_bestSeats r_firstSeats r_restLearn r_marksNow r_row : Nat) : Met l yX8_on wsX8_on ({ frames := 1, cells := 0, slots := 0, locals := 21 }) (va_Pc [.ref h0] (vx_B (dC, dI) (vx_T cI cC cZ) sz [(h0, .inr (6, [.ref r_refused, .ref r_now, .ref r_then, .ref r_before, .ref r_asIs, .int 0, .ref r_tape, .int 0, .int 0, .int 0, .ref r_begins, .ref r_kinds, .int 0, .ref r_field, .ref r_willTeach, .ref r_isBack, .ref r_told, .ref r_bestSeats, .ref r_firstSeats, .int 0, .int 0, .int 0, .int 0, .int 0, .int 0, .int 0, .int 0, .int 0, .ref r_restLearn, .ref r_marksNow, .ref r_row, .int 0, .int 0])), (r_refused, .inl (cI, 7, .inl (fun _ => 0)))])) (va_Qi (fun (r : Int32) (_ : Unit) => r = (-3)) (vx_C (dC, dI) (vx_T cI cC cZ) (va_A [(h0, .inr (6, [.ref r_refused, .ref r_now, .ref r_then, .ref r_before, .ref r_asIs, .int 0, .ref r_tape, .int 0, .int 0, .int 0, .ref r_begins, .ref r_kinds, .int 0, .ref r_field, .ref r_willTeach, .ref r_isBack, .ref r_told, .ref r_bestSeats, .ref r_firstSeats, .int 0, .int 0, .int 0, .int 0, .int 0, .int 0, .int 0, .int 0, .int 0, .ref r_restLearn, .ref r_marksNow, .ref r_row, .int 0, .int 0])), (r_refused, .inl (cI, 7, .inl (fun _ => 0)))] sz) (fun (u : Unit) => [])) (va_A [(h0, .inr (6, [.ref r_refused, .ref r_now, .ref r_then, .ref r_before, .ref r_asIs, .int 0, .ref r_tape, .int 0, .int 0, .int 0, .ref r_begins, .ref r_kinds, .int 0, .ref r_field, .ref r_willTeach, .ref r_isBack, .ref r_told, .ref r_bestSeats, .ref r_firstSeats, .int 0, .int 0, .int 0, .int 0, .int 0, .int 0, .int 0, .int 0, .int 0, .ref r_restLearn, .ref r_marksNow, .ref r_row, .int 0, .int 0])), (r_refused, .inl (cI, 7, .inl (fun _ => 0)))] sz)) 0 0 (va_A [(h0, .inr (6, [.ref r_refused, .ref r_now, .ref r_then, .ref r_before, .ref r_asIs, .int 0, .ref r_tape, .int 0, .int 0, .int 0, .ref r_begins, .ref r_kinds, .int 0, .ref r_field, .ref r_willTeach, .ref r_isBack, .ref r_told, .ref r_bestSeats, .ref r_firstSeats, .int 0, .int 0, .int 0, .int 0, .int 0, .int 0, .int 0, .int 0, .int 0, .ref r_restLearn, .ref r_marksNow, .ref r_row, .int 0, .int 0])), (r_refused, .inl (cI, 7, .inl (fun _ => 0)))] sz) := by
  refine Met.ofW (cc := cX8_on) (maxL := 1) (ret := (some .int)) (by decide) rfl ?_
  intro p e s m args below meth c s₁ B hml hv
  obtain ⟨rfl, hsz, hP, hK, hD0⟩ := hv
  have hx := B.exec
  have hb := B.bytes
  have hr := B.returns
  have hts := atoms_spec (ws := wsX8_on) B.pre
  have hown : s.vm.findClass RX8 = some m.cls := findClass_of_methodNamed B.named
  have hlocks := B.notSynchronized
  subst hsz
  have hD := hD0.self (sz := s.heap.size)
  generalize hAe : va_A [(h0, .inr (6, [.ref r_refused, .ref r_now, .ref r_then, .ref r_before, .ref r_asIs, .int 0, .ref r_tape, .int 0, .int 0, .int 0, .ref r_begins, .ref r_kinds, .int 0, .ref r_field, .ref r_willTeach, .ref r_isBack, .ref r_told, .ref r_bestSeats, .ref r_firstSeats, .int 0, .int 0, .int 0, .int 0, .int 0, .int 0, .int 0, .int 0, .int 0, .ref r_restLearn, .ref r_marksNow, .ref r_row, .int 0, .int 0])), (r_refused, .inl (cI, 7, .inl (fun _ => 0)))] s.heap.size = A at hD ⊢
  have hA : ∀ q : Nat, s.heap.size ≤ q → A q := fun q h => by rw [← hAe]; exact Or.inr h
  have hS : va_S A s.heap s.heap [] := va_S.rf
  have hl := lv_entry ([.ref h0]) (n := 1) (Nat.le_of_ble_eq_true rfl)
  rw [lg_entry_eq]
  generalize (lg_sl ([.ref h0]) ++ List.replicate (1 - (lg_sl ([.ref h0])).length) Slot.unset).toArray = ls at hl ⊢
  have hl : lv_has ls 1 [(0, .ref h0)] := hl
  have iX8 : ∀ w ∈ u_ws RX8 TX8 33, w ∈ wsX8_on := by decide +kernel
  refine lv_aload_n hx hb dX8_on_0 rfl (lv_at hl 0 rfl) ?_
  refine va_get (D := (dC, dI)) (ci := 6) (v := .int 0) (C := RX8) (T := TX8) (N := 33) hx hb hts iX8 hown hK hP 0 rfl rfl 5 (by decide) (hts (.fieldLink RX8 63 "NeighboursMarkModel" "kept" "Z") (by decide +kernel)) (fun _ h9 => h9) rfl dX8_on_1 ?_
  refine lv_if_ne (tgt := 14) hx hb dX8_on_4 (by decide) (fun c0 => absurd (by decide) c0) (fun _ => ?_)
  refine lv_aload_n hx hb dX8_on_7 rfl (lv_at hl 0 rfl) ?_
  refine lv_bipush (v := (-3)) hx hb dX8_on_8 (by decide) ?_
  have hPc := hP.sub (ws' := [(h0, .inr (6, [.ref r_refused, .ref r_now, .ref r_then, .ref r_before, .ref r_asIs, .int 0, .ref r_tape, .int 0, .int 0, .int 0, .ref r_begins, .ref r_kinds, .int 0, .ref r_field, .ref r_willTeach, .ref r_isBack, .ref r_told, .ref r_bestSeats, .ref r_firstSeats, .int 0, .int 0, .int 0, .int 0, .int 0, .int 0, .int 0, .int 0, .int 0, .ref r_restLearn, .ref r_marksNow, .ref r_row, .int 0, .int 0])), (r_refused, .inl (cI, 7, .inl (fun _ => 0)))]) [0, 1] rfl
  have hDc := hD.sub (ws' := [(h0, .inr (6, [.ref r_refused, .ref r_now, .ref r_then, .ref r_before, .ref r_asIs, .int 0, .ref r_tape, .int 0, .int 0, .int 0, .ref r_begins, .ref r_kinds, .int 0, .ref r_field, .ref r_willTeach, .ref r_isBack, .ref r_told, .ref r_bestSeats, .ref r_firstSeats, .int 0, .int 0, .int 0, .int 0, .int 0, .int 0, .int 0, .int 0, .int 0, .ref r_restLearn, .ref r_marksNow, .ref r_row, .int 0, .int 0])), (r_refused, .inl (cI, 7, .inl (fun _ => 0)))]) [0, 1] (by decide) rfl
  refine vx_calli (wc := [(h0, .inr (6, [.ref r_refused, .ref r_now, .ref r_then, .ref r_before, .ref r_asIs, .int 0, .ref r_tape, .int 0, .int 0, .int 0, .ref r_begins, .ref r_kinds, .int 0, .ref r_field, .ref r_willTeach, .ref r_isBack, .ref r_told, .ref r_bestSeats, .ref r_firstSeats, .int 0, .int 0, .int 0, .int 0, .int 0, .int 0, .int 0, .int 0, .int 0, .ref r_restLearn, .ref r_marksNow, .ref r_row, .int 0, .int 0])), (r_refused, .inl (cI, 7, .inl (fun _ => 0)))]) (wr := []) hP hD hS hA [0, 1] [] rfl rfl (by decide) (by decide) (va_runV (As := [.int (-3)]) (rest := []) ⟨hx, hb, hml, hown, hts⟩ (r_no3 l dC dI cI cC cZ _ h0 r_refused r_now r_then r_before r_asIs r_tape r_begins r_kinds r_field r_willTeach r_isBack r_told r_bestSeats r_firstSeats r_restLearn r_marksNow r_row 0 0 0 0 0 0 0 0 0 0 0 0 0 0 0 0 0 (fun _ => 0) rfl) (cwV 1 hts gX8_on_X8_no rfl rfl rfl (by decide +kernel) ⟨Nat.le_of_ble_eq_true rfl, Nat.le_of_ble_eq_true rfl⟩) ⟨vx_blind, va_recv hK hPc (ci := 6) (q0 := 0) rfl rfl, vx_pre hK hPc hDc⟩ rfl rfl hl.1 rfl (lv_room (Nat.le_of_ble_eq_true rfl)) dX8_on_10 ⟨Nat.le_of_ble_eq_true rfl, Nat.le_of_ble_eq_true rfl⟩) (fun r2 u1 H locs hw3 hP hD hS => ?_)
  have hP : va_P (dC, dI) vwCl [(h0, .inr (6, [.ref r_refused, .ref r_now, .ref r_then, .ref r_before, .ref r_asIs, .int 0, .ref r_tape, .int 0, .int 0, .int 0, .ref r_begins, .ref r_kinds, .int 0, .ref r_field, .ref r_willTeach, .ref r_isBack, .ref r_told, .ref r_bestSeats, .ref r_firstSeats, .int 0, .int 0, .int 0, .int 0, .int 0, .int 0, .int 0, .int 0, .int 0, .ref r_restLearn, .ref r_marksNow, .ref r_row, .int 0, .int 0])), (r_refused, .inl (cI, 7, .inl (upd (fun _ => 0) 3 1)))] H := hP
  have hD : va_D A [(h0, .inr (6, [.ref r_refused, .ref r_now, .ref r_then, .ref r_before, .ref r_asIs, .int 0, .ref r_tape, .int 0, .int 0, .int 0, .ref r_begins, .ref r_kinds, .int 0, .ref r_field, .ref r_willTeach, .ref r_isBack, .ref r_told, .ref r_bestSeats, .ref r_firstSeats, .int 0, .int 0, .int 0, .int 0, .int 0, .int 0, .int 0, .int 0, .int 0, .ref r_restLearn, .ref r_marksNow, .ref r_row, .int 0, .int 0])), (r_refused, .inl (cI, 7, .inl (upd (fun _ => 0) 3 1)))] := hD
  have er2 : (-3) = r2 := Eq.symm hw3
  subst er2
  exact vx_iret (u := ()) hx hb hr hlocks hK hP hD hS [] rfl (by decide) rfl dX8_on_13
theorem zz_m_count_0 (a : Int32) (h0 : a < (0 : Int32)) (h1 : a = (6 : Int32)) : False := by
  have e0 : (0 : Int32).toInt = 0 := by decide
  have e1 : (6 : Int32).toInt = 6 := by decide
  try simp only [Int32.lt_iff_toInt_lt, Int32.le_iff_toInt_le, ← Int32.toInt_inj, e0, e1] at h0
  try simp only [Int32.lt_iff_toInt_lt, Int32.le_iff_toInt_le, ← Int32.toInt_inj, e0, e1] at h1
  omega
theorem zz_m_count_1 (a : Int32) (h0 : a < (0 : Int32)) (h1 : ¬ a = (6 : Int32)) (h2 : a = (7 : Int32)) : False := by
  have e0 : (0 : Int32).toInt = 0 := by decide
  have e1 : (6 : Int32).toInt = 6 := by decide
  have e2 : (7 : Int32).toInt = 7 := by decide
  try simp only [Int32.lt_iff_toInt_lt, Int32.le_iff_toInt_le, ← Int32.toInt_inj, e0, e1, e2] at h0
  try simp only [Int32.lt_iff_toInt_lt, Int32.le_iff_toInt_le, ← Int32.toInt_inj, e0, e1, e2] at h1
  try simp only [Int32.lt_iff_toInt_lt, Int32.le_iff_toInt_le, ← Int32.toInt_inj, e0, e1, e2] at h2
  omega
theorem zz_m_count_2 (a : Int32) (h0 : a < (0 : Int32)) (h1 : ¬ a = (6 : Int32)) (h2 : ¬ a = (7 : Int32)) (h3 : ¬ a < (11 : Int32)) : False := by
  have e0 : (0 : Int32).toInt = 0 := by decide
  have e1 : (6 : Int32).toInt = 6 := by decide
  have e2 : (7 : Int32).toInt = 7 := by decide
  have e3 : (11 : Int32).toInt = 11 := by decide
  try simp only [Int32.lt_iff_toInt_lt, Int32.le_iff_toInt_le, ← Int32.toInt_inj, e0, e1, e2, e3] at h0
  try simp only [Int32.lt_iff_toInt_lt, Int32.le_iff_toInt_le, ← Int32.toInt_inj, e0, e1, e2, e3] at h1
  try simp only [Int32.lt_iff_toInt_lt, Int32.le_iff_toInt_le, ← Int32.toInt_inj, e0, e1, e2, e3] at h2
  try simp only [Int32.lt_iff_toInt_lt, Int32.le_iff_toInt_le, ← Int32.toInt_inj, e0, e1, e2, e3] at h3
  omega
theorem zz_m_count_3 (a : Int32) (h0 : a < (0 : Int32)) (h1 : ¬ a = (6 : Int32)) (h2 : ¬ a = (7 : Int32)) (h3 : a < (11 : Int32)) : ((-9) : Int32) = f_count a := by
  have e0 : ((-9) : Int32).toInt = -9 := by decide
  have e1 : (0 : Int32).toInt = 0 := by decide
  have e2 : (1 : Int32).toInt = 1 := by decide
  have e3 : (2 : Int32).toInt = 2 := by decide
  have e4 : (3 : Int32).toInt = 3 := by decide
  have e5 : (4 : Int32).toInt = 4 := by decide
  have e6 : (5 : Int32).toInt = 5 := by decide
  have e7 : (6 : Int32).toInt = 6 := by decide
  have e8 : (7 : Int32).toInt = 7 := by decide
  have e9 : (8 : Int32).toInt = 8 := by decide
  have e10 : (10 : Int32).toInt = 10 := by decide
  have e11 : (11 : Int32).toInt = 11 := by decide
  have e12 : (16 : Int32).toInt = 16 := by decide
  have e13 : (32 : Int32).toInt = 32 := by decide
  unfold f_count
  (repeat' split) <;> first | rfl | (exfalso; simp only [Int32.lt_iff_toInt_lt, Int32.le_iff_toInt_le, ← Int32.toInt_inj, e0, e1, e2, e3, e4, e5, e6, e7, e8, e9, e10, e11, e12, e13] at * <;> omega)
theorem zz_m_count_4 (a : Int32) (h0 : ¬ a < (0 : Int32)) (h1 : (6 : Int32) ≤ a) (h2 : ¬ a = (6 : Int32)) (h3 : ¬ a = (7 : Int32)) (h4 : a < (11 : Int32)) : ((-9) : Int32) = f_count a := by
  have e0 : ((-9) : Int32).toInt = -9 := by decide
  have e1 : (0 : Int32).toInt = 0 := by decide
  have e2 : (1 : Int32).toInt = 1 := by decide
  have e3 : (2 : Int32).toInt = 2 := by decide
  have e4 : (3 : Int32).toInt = 3 := by decide
  have e5 : (4 : Int32).toInt = 4 := by decide
  have e6 : (5 : Int32).toInt = 5 := by decide
  have e7 : (6 : Int32).toInt = 6 := by decide
  have e8 : (7 : Int32).toInt = 7 := by decide
  have e9 : (8 : Int32).toInt = 8 := by decide
  have e10 : (10 : Int32).toInt = 10 := by decide
  have e11 : (11 : Int32).toInt = 11 := by decide
  have e12 : (16 : Int32).toInt = 16 := by decide
  have e13 : (32 : Int32).toInt = 32 := by decide
  unfold f_count
  (repeat' split) <;> first | rfl | (exfalso; simp only [Int32.lt_iff_toInt_lt, Int32.le_iff_toInt_le, ← Int32.toInt_inj, e0, e1, e2, e3, e4, e5, e6, e7, e8, e9, e10, e11, e12, e13] at * <;> omega)
theorem zz_m_count_5 (a : Int32) (h0 : ¬ a < (0 : Int32)) (h1 : (6 : Int32) ≤ a) (h2 : ¬ a = (6 : Int32)) (h3 : ¬ a = (7 : Int32)) (h4 : ¬ a < (11 : Int32)) (h5 : (16 : Int32) < a) : ((-9) : Int32) = f_count a := by
  have e0 : ((-9) : Int32).toInt = -9 := by decide
  have e1 : (0 : Int32).toInt = 0 := by decide
  have e2 : (1 : Int32).toInt = 1 := by decide
  have e3 : (2 : Int32).toInt = 2 := by decide
  have e4 : (3 : Int32).toInt = 3 := by decide
  have e5 : (4 : Int32).toInt = 4 := by decide
  have e6 : (5 : Int32).toInt = 5 := by decide
  have e7 : (6 : Int32).toInt = 6 := by decide
  have e8 : (7 : Int32).toInt = 7 := by decide
  have e9 : (8 : Int32).toInt = 8 := by decide
  have e10 : (10 : Int32).toInt = 10 := by decide
  have e11 : (11 : Int32).toInt = 11 := by decide
  have e12 : (16 : Int32).toInt = 16 := by decide
  have e13 : (32 : Int32).toInt = 32 := by decide
  unfold f_count
  (repeat' split) <;> first | rfl | (exfalso; simp only [Int32.lt_iff_toInt_lt, Int32.le_iff_toInt_le, ← Int32.toInt_inj, e0, e1, e2, e3, e4, e5, e6, e7, e8, e9, e10, e11, e12, e13] at * <;> omega)
theorem zz_m_count_6 (a : Int32) (h0 : ¬ a < (0 : Int32)) (h1 : (6 : Int32) ≤ a) (h2 : ¬ a = (6 : Int32)) (h3 : ¬ a = (7 : Int32)) (h4 : ¬ a < (11 : Int32)) (h5 : ¬ (16 : Int32) < a) : a = 11 ∨ a = 12 ∨ a = 13 ∨ a = 14 ∨ a = 15 ∨ a = 16 := by
  have e0 : (0 : Int32).toInt = 0 := by decide
  have e1 : (6 : Int32).toInt = 6 := by decide
  have e2 : (7 : Int32).toInt = 7 := by decide
  have e3 : (11 : Int32).toInt = 11 := by decide
  have e4 : (12 : Int32).toInt = 12 := by decide
  have e5 : (13 : Int32).toInt = 13 := by decide
  have e6 : (14 : Int32).toInt = 14 := by decide
  have e7 : (15 : Int32).toInt = 15 := by decide
  have e8 : (16 : Int32).toInt = 16 := by decide
  try simp only [Int32.lt_iff_toInt_lt, Int32.le_iff_toInt_le, ← Int32.toInt_inj, e0, e1, e2, e3, e4, e5, e6, e7, e8] at h0
  try simp only [Int32.lt_iff_toInt_lt, Int32.le_iff_toInt_le, ← Int32.toInt_inj, e0, e1, e2, e3, e4, e5, e6, e7, e8] at h1
  try simp only [Int32.lt_iff_toInt_lt, Int32.le_iff_toInt_le, ← Int32.toInt_inj, e0, e1, e2, e3, e4, e5, e6, e7, e8] at h2
  try simp only [Int32.lt_iff_toInt_lt, Int32.le_iff_toInt_le, ← Int32.toInt_inj, e0, e1, e2, e3, e4, e5, e6, e7, e8] at h3
  try simp only [Int32.lt_iff_toInt_lt, Int32.le_iff_toInt_le, ← Int32.toInt_inj, e0, e1, e2, e3, e4, e5, e6, e7, e8] at h4
  try simp only [Int32.lt_iff_toInt_lt, Int32.le_iff_toInt_le, ← Int32.toInt_inj, e0, e1, e2, e3, e4, e5, e6, e7, e8] at h5
  simp only [Int32.lt_iff_toInt_lt, Int32.le_iff_toInt_le, ← Int32.toInt_inj, e0, e1, e2, e3, e4, e5, e6, e7, e8]
  omega
theorem zz_m_count_7 (a : Int32) (h0 : ¬ a < (0 : Int32)) (h1 : (6 : Int32) ≤ a) (h2 : ¬ a = (6 : Int32)) (h3 : a = (7 : Int32)) : (0 : Int32) = f_count a := by
  have e0 : ((-9) : Int32).toInt = -9 := by decide
  have e1 : (0 : Int32).toInt = 0 := by decide
  have e2 : (1 : Int32).toInt = 1 := by decide
  have e3 : (2 : Int32).toInt = 2 := by decide
  have e4 : (3 : Int32).toInt = 3 := by decide
  have e5 : (4 : Int32).toInt = 4 := by decide
  have e6 : (5 : Int32).toInt = 5 := by decide
  have e7 : (6 : Int32).toInt = 6 := by decide
  have e8 : (7 : Int32).toInt = 7 := by decide
  have e9 : (8 : Int32).toInt = 8 := by decide
  have e10 : (10 : Int32).toInt = 10 := by decide
  have e11 : (11 : Int32).toInt = 11 := by decide
  have e12 : (16 : Int32).toInt = 16 := by decide
  have e13 : (32 : Int32).toInt = 32 := by decide
  unfold f_count
  (repeat' split) <;> first | rfl | (exfalso; simp only [Int32.lt_iff_toInt_lt, Int32.le_iff_toInt_le, ← Int32.toInt_inj, e0, e1, e2, e3, e4, e5, e6, e7, e8, e9, e10, e11, e12, e13] at * <;> omega)
theorem zz_m_count_8 (a : Int32) (h0 : ¬ a < (0 : Int32)) (h1 : (6 : Int32) ≤ a) (h2 : a = (6 : Int32)) : (0 : Int32) = f_count a := by
  have e0 : ((-9) : Int32).toInt = -9 := by decide
  have e1 : (0 : Int32).toInt = 0 := by decide
  have e2 : (1 : Int32).toInt = 1 := by decide
  have e3 : (2 : Int32).toInt = 2 := by decide
  have e4 : (3 : Int32).toInt = 3 := by decide
  have e5 : (4 : Int32).toInt = 4 := by decide
  have e6 : (5 : Int32).toInt = 5 := by decide
  have e7 : (6 : Int32).toInt = 6 := by decide
  have e8 : (8 : Int32).toInt = 8 := by decide
  have e9 : (10 : Int32).toInt = 10 := by decide
  have e10 : (11 : Int32).toInt = 11 := by decide
  have e11 : (16 : Int32).toInt = 16 := by decide
  have e12 : (32 : Int32).toInt = 32 := by decide
  unfold f_count
  (repeat' split) <;> first | rfl | (exfalso; simp only [Int32.lt_iff_toInt_lt, Int32.le_iff_toInt_le, ← Int32.toInt_inj, e0, e1, e2, e3, e4, e5, e6, e7, e8, e9, e10, e11, e12] at * <;> omega)
theorem zz_m_count_9 (a : Int32) (h0 : ¬ a < (0 : Int32)) (h1 : ¬ (6 : Int32) ≤ a) : a = 0 ∨ a = 1 ∨ a = 2 ∨ a = 3 ∨ a = 4 ∨ a = 5 := by
  have e0 : (0 : Int32).toInt = 0 := by decide
  have e1 : (1 : Int32).toInt = 1 := by decide
  have e2 : (2 : Int32).toInt = 2 := by decide
  have e3 : (3 : Int32).toInt = 3 := by decide
  have e4 : (4 : Int32).toInt = 4 := by decide
  have e5 : (5 : Int32).toInt = 5 := by decide
  have e6 : (6 : Int32).toInt = 6 := by decide
  try simp only [Int32.lt_iff_toInt_lt, Int32.le_iff_toInt_le, ← Int32.toInt_inj, e0, e1, e2, e3, e4, e5, e6] at h0
  try simp only [Int32.lt_iff_toInt_lt, Int32.le_iff_toInt_le, ← Int32.toInt_inj, e0, e1, e2, e3, e4, e5, e6] at h1
  simp only [Int32.lt_iff_toInt_lt, Int32.le_iff_toInt_le, ← Int32.toInt_inj, e0, e1, e2, e3, e4, e5, e6]
  omega
set_option maxHeartbeats 4000000 in
set_option maxRecDepth 100000 in
theorem m_count (l : Launch) (dC : Nat → ClassId) (dI : Nat → Nat → Nat) (cI cC cZ : ClassId) (sz : Nat) (h0 r_refused r_now r_then r_before r_asIs r_tape r_begins r_kinds r_field r_willTeach r_isBack r_told r_bestSeats r_firstSeats r_restLearn r_marksNow r_row : Nat) (a : Int32) : Met l yX8_count wsX8_count ({ frames := 0, cells := 0, slots := 0, locals := 0 }) (va_Pc [.ref h0, .int a] (vx_B (dC, dI) (vx_T cI cC cZ) sz [(h0, .inr (6, [.ref r_refused, .ref r_now, .ref r_then, .ref r_before, .ref r_asIs, .int 0, .ref r_tape, .int 0, .int 0, .int 0, .ref r_begins, .ref r_kinds, .int 0, .ref r_field, .ref r_willTeach, .ref r_isBack, .ref r_told, .ref r_bestSeats, .ref r_firstSeats, .int 0, .int 0, .int 0, .int 0, .int 0, .int 0, .int 0, .int 0, .int 0, .ref r_restLearn, .ref r_marksNow, .ref r_row, .int 0, .int 0])), (r_refused, .inl (cI, 7, .inl (fun _ => 0))), (r_now, .inl (cI, 80, .inl (upd (upd (upd (upd (fun _ => 0) 1 2) 3 1) 4 10) 5 1)))])) (va_Qi (fun (r : Int32) (_ : Unit) => r = f_count a) (vx_C (dC, dI) (vx_T cI cC cZ) (va_A [(h0, .inr (6, [.ref r_refused, .ref r_now, .ref r_then, .ref r_before, .ref r_asIs, .int 0, .ref r_tape, .int 0, .int 0, .int 0, .ref r_begins, .ref r_kinds, .int 0, .ref r_field, .ref r_willTeach, .ref r_isBack, .ref r_told, .ref r_bestSeats, .ref r_firstSeats, .int 0, .int 0, .int 0, .int 0, .int 0, .int 0, .int 0, .int 0, .int 0, .ref r_restLearn, .ref r_marksNow, .ref r_row, .int 0, .int 0])), (r_refused, .inl (cI, 7, .inl (fun _ => 0))), (r_now, .inl (cI, 80, .inl (upd (upd (upd (upd (fun _ => 0) 1 2) 3 1) 4 10) 5 1)))] sz) (fun (u : Unit) => [])) (va_A [(h0, .inr (6, [.ref r_refused, .ref r_now, .ref r_then, .ref r_before, .ref r_asIs, .int 0, .ref r_tape, .int 0, .int 0, .int 0, .ref r_begins, .ref r_kinds, .int 0, .ref r_field, .ref r_willTeach, .ref r_isBack, .ref r_told, .ref r_bestSeats, .ref r_firstSeats, .int 0, .int 0, .int 0, .int 0, .int 0, .int 0, .int 0, .int 0, .int 0, .ref r_restLearn, .ref r_marksNow, .ref r_row, .int 0, .int 0])), (r_refused, .inl (cI, 7, .inl (fun _ => 0))), (r_now, .inl (cI, 80, .inl (upd (upd (upd (upd (fun _ => 0) 1 2) 3 1) 4 10) 5 1)))] sz)) 0 0 (va_A [(h0, .inr (6, [.ref r_refused, .ref r_now, .ref r_then, .ref r_before, .ref r_asIs, .int 0, .ref r_tape, .int 0, .int 0, .int 0, .ref r_begins, .ref r_kinds, .int 0, .ref r_field, .ref r_willTeach, .ref r_isBack, .ref r_told, .ref r_bestSeats, .ref r_firstSeats, .int 0, .int 0, .int 0, .int 0, .int 0, .int 0, .int 0, .int 0, .int 0, .ref r_restLearn, .ref r_marksNow, .ref r_row, .int 0, .int 0])), (r_refused, .inl (cI, 7, .inl (fun _ => 0))), (r_now, .inl (cI, 80, .inl (upd (upd (upd (upd (fun _ => 0) 1 2) 3 1) 4 10) 5 1)))] sz) := by
  refine Met.ofW (cc := cX8_count) (maxL := 2) (ret := (some .int)) (by decide) rfl ?_
  intro p e s m args below meth c s₁ B hml hv
  obtain ⟨rfl, hsz, hP, hK, hD0⟩ := hv
  have hx := B.exec
  have hb := B.bytes
  have hr := B.returns
  have hts := atoms_spec (ws := wsX8_count) B.pre
  have hown : s.vm.findClass RX8 = some m.cls := findClass_of_methodNamed B.named
  have hlocks := B.notSynchronized
  subst hsz
  have hD := hD0.self (sz := s.heap.size)
  generalize hAe : va_A [(h0, .inr (6, [.ref r_refused, .ref r_now, .ref r_then, .ref r_before, .ref r_asIs, .int 0, .ref r_tape, .int 0, .int 0, .int 0, .ref r_begins, .ref r_kinds, .int 0, .ref r_field, .ref r_willTeach, .ref r_isBack, .ref r_told, .ref r_bestSeats, .ref r_firstSeats, .int 0, .int 0, .int 0, .int 0, .int 0, .int 0, .int 0, .int 0, .int 0, .ref r_restLearn, .ref r_marksNow, .ref r_row, .int 0, .int 0])), (r_refused, .inl (cI, 7, .inl (fun _ => 0))), (r_now, .inl (cI, 80, .inl (upd (upd (upd (upd (fun _ => 0) 1 2) 3 1) 4 10) 5 1)))] s.heap.size = A at hD ⊢
  have hA : ∀ q : Nat, s.heap.size ≤ q → A q := fun q h => by rw [← hAe]; exact Or.inr h
  have hS : va_S A s.heap s.heap [] := va_S.rf
  have hl := lv_entry ([.ref h0, .int a]) (n := 2) (Nat.le_of_ble_eq_true rfl)
  rw [lg_entry_eq]
  generalize (lg_sl ([.ref h0, .int a]) ++ List.replicate (2 - (lg_sl ([.ref h0, .int a])).length) Slot.unset).toArray = ls at hl ⊢
  have hl : lv_has ls 2 [(0, .ref h0), (1, .int a)] := hl
  have iX8 : ∀ w ∈ u_ws RX8 TX8 33, w ∈ wsX8_count := by decide +kernel
  refine lv_iload_n hx hb dX8_count_0 rfl (lv_at hl 1 rfl) ?_
  refine lv_if_lt (tgt := 19) hx hb dX8_count_1 (by decide) (fun c1 => ?_) (fun c1 => ?_)
  · skip
    refine lv_iload_n hx hb dX8_count_19 rfl (lv_at hl 1 rfl) ?_
    refine lv_bipush (v := 6) hx hb dX8_count_20 (by decide) ?_
    refine lv_icmp_ne (tgt := 32) hx hb dX8_count_22 (by decide) (fun c2 => ?_) (fun c2 => (zz_m_count_0 a c1 c2).elim)
    refine lv_iload_n hx hb dX8_count_32 rfl (lv_at hl 1 rfl) ?_
    refine lv_bipush (v := 7) hx hb dX8_count_33 (by decide) ?_
    refine lv_icmp_ne (tgt := 45) hx hb dX8_count_35 (by decide) (fun c3 => ?_) (fun c3 => (zz_m_count_1 a c1 c2 c3).elim)
    refine lv_iload_n hx hb dX8_count_45 rfl (lv_at hl 1 rfl) ?_
    refine lv_bipush (v := 11) hx hb dX8_count_46 (by decide) ?_
    refine lv_icmp_lt (tgt := 69) hx hb dX8_count_48 (by decide) (fun c4 => ?_) (fun c4 => (zz_m_count_2 a c1 c2 c3 c4).elim)
    refine lv_bipush (v := (-9)) hx hb dX8_count_69 (by decide) ?_
    exact vx_iret (u := ()) hx hb hr hlocks hK hP hD hS [] rfl (by decide) (zz_m_count_3 a c1 c2 c3 c4) dX8_count_71
  · skip
    refine lv_iload_n hx hb dX8_count_4 rfl (lv_at hl 1 rfl) ?_
    refine lv_bipush (v := 6) hx hb dX8_count_5 (by decide) ?_
    refine lv_icmp_ge (tgt := 19) hx hb dX8_count_7 (by decide) (fun c5 => ?_) (fun c5 => ?_)
    · skip
      refine lv_iload_n hx hb dX8_count_19 rfl (lv_at hl 1 rfl) ?_
      refine lv_bipush (v := 6) hx hb dX8_count_20 (by decide) ?_
      refine lv_icmp_ne (tgt := 32) hx hb dX8_count_22 (by decide) (fun c6 => ?_) (fun c6 => ?_)
      · skip
        refine lv_iload_n hx hb dX8_count_32 rfl (lv_at hl 1 rfl) ?_
        refine lv_bipush (v := 7) hx hb dX8_count_33 (by decide) ?_
        refine lv_icmp_ne (tgt := 45) hx hb dX8_count_35 (by decide) (fun c7 => ?_) (fun c7 => ?_)
        · skip
          refine lv_iload_n hx hb dX8_count_45 rfl (lv_at hl 1 rfl) ?_
          refine lv_bipush (v := 11) hx hb dX8_count_46 (by decide) ?_
          refine lv_icmp_lt (tgt := 69) hx hb dX8_count_48 (by decide) (fun c8 => ?_) (fun c8 => ?_)
          · skip
            refine lv_bipush (v := (-9)) hx hb dX8_count_69 (by decide) ?_
            exact vx_iret (u := ()) hx hb hr hlocks hK hP hD hS [] rfl (by decide) (zz_m_count_4 a c1 c5 c6 c7 c8) dX8_count_71
          · skip
            refine lv_iload_n hx hb dX8_count_51 rfl (lv_at hl 1 rfl) ?_
            refine lv_bipush (v := 16) hx hb dX8_count_52 (by decide) ?_
            refine lv_icmp_gt (tgt := 69) hx hb dX8_count_54 (by decide) (fun c9 => ?_) (fun c9 => ?_)
            · skip
              refine lv_bipush (v := (-9)) hx hb dX8_count_69 (by decide) ?_
              exact vx_iret (u := ()) hx hb hr hlocks hK hP hD hS [] rfl (by decide) (zz_m_count_5 a c1 c5 c6 c7 c8 c9) dX8_count_71
            · skip
              rcases (zz_m_count_6 a c1 c5 c6 c7 c8 c9) with e_a | e_a | e_a | e_a | e_a | e_a
              · subst e_a
                refine lv_aload_n hx hb dX8_count_57 rfl (lv_at hl 0 rfl) ?_
                refine va_get (D := (dC, dI)) (ci := 6) (v := .ref r_refused) (C := RX8) (T := TX8) (N := 33) hx hb hts iX8 hown hK hP 0 rfl rfl 0 (by decide) (hts (.fieldLink RX8 1 "NeighboursMarkModel" "refused" "[I") (by decide +kernel)) (fun _ h9 => h9) rfl dX8_count_58 ?_
                refine lv_iload_n hx hb dX8_count_61 rfl (lv_at hl 1 rfl) ?_
                refine lv_bipush (v := 10) hx hb dX8_count_62 (by decide) ?_
                refine lv_isub hx hb dX8_count_64 ?_
                refine lv_topi (fun x10 ex10 => ?_)
                have ex10 : 1 = x10 := (ex10.trans (by decide)).symm
                subst ex10
                refine va_iald hx hb hK hP 1 0 rfl rfl (by unfold vp_in; decide) dX8_count_65 ?_
                refine lv_topi (fun x11 ex11 => ?_)
                have ex11 : 0 = x11 := (ex11.trans rfl).symm
                subst ex11
                refine lv_goto (tgt := 71) hx hb dX8_count_66 (by decide) ?_
                exact vx_iret (u := ()) hx hb hr hlocks hK hP hD hS [] rfl (by decide) (show (0 : Int32) = f_count 11 by decide) dX8_count_71
              · subst e_a
                refine lv_aload_n hx hb dX8_count_57 rfl (lv_at hl 0 rfl) ?_
                refine va_get (D := (dC, dI)) (ci := 6) (v := .ref r_refused) (C := RX8) (T := TX8) (N := 33) hx hb hts iX8 hown hK hP 0 rfl rfl 0 (by decide) (hts (.fieldLink RX8 1 "NeighboursMarkModel" "refused" "[I") (by decide +kernel)) (fun _ h9 => h9) rfl dX8_count_58 ?_
                refine lv_iload_n hx hb dX8_count_61 rfl (lv_at hl 1 rfl) ?_
                refine lv_bipush (v := 10) hx hb dX8_count_62 (by decide) ?_
                refine lv_isub hx hb dX8_count_64 ?_
                refine lv_topi (fun x12 ex12 => ?_)
                have ex12 : 2 = x12 := (ex12.trans (by decide)).symm
                subst ex12
                refine va_iald hx hb hK hP 1 0 rfl rfl (by unfold vp_in; decide) dX8_count_65 ?_
                refine lv_topi (fun x13 ex13 => ?_)
                have ex13 : 0 = x13 := (ex13.trans rfl).symm
                subst ex13
                refine lv_goto (tgt := 71) hx hb dX8_count_66 (by decide) ?_
                exact vx_iret (u := ()) hx hb hr hlocks hK hP hD hS [] rfl (by decide) (show (0 : Int32) = f_count 12 by decide) dX8_count_71
              · subst e_a
                refine lv_aload_n hx hb dX8_count_57 rfl (lv_at hl 0 rfl) ?_
                refine va_get (D := (dC, dI)) (ci := 6) (v := .ref r_refused) (C := RX8) (T := TX8) (N := 33) hx hb hts iX8 hown hK hP 0 rfl rfl 0 (by decide) (hts (.fieldLink RX8 1 "NeighboursMarkModel" "refused" "[I") (by decide +kernel)) (fun _ h9 => h9) rfl dX8_count_58 ?_
                refine lv_iload_n hx hb dX8_count_61 rfl (lv_at hl 1 rfl) ?_
                refine lv_bipush (v := 10) hx hb dX8_count_62 (by decide) ?_
                refine lv_isub hx hb dX8_count_64 ?_
                refine lv_topi (fun x14 ex14 => ?_)
                have ex14 : 3 = x14 := (ex14.trans (by decide)).symm
                subst ex14
                refine va_iald hx hb hK hP 1 0 rfl rfl (by unfold vp_in; decide) dX8_count_65 ?_
                refine lv_topi (fun x15 ex15 => ?_)
                have ex15 : 0 = x15 := (ex15.trans rfl).symm
                subst ex15
                refine lv_goto (tgt := 71) hx hb dX8_count_66 (by decide) ?_
                exact vx_iret (u := ()) hx hb hr hlocks hK hP hD hS [] rfl (by decide) (show (0 : Int32) = f_count 13 by decide) dX8_count_71
              · subst e_a
                refine lv_aload_n hx hb dX8_count_57 rfl (lv_at hl 0 rfl) ?_
                refine va_get (D := (dC, dI)) (ci := 6) (v := .ref r_refused) (C := RX8) (T := TX8) (N := 33) hx hb hts iX8 hown hK hP 0 rfl rfl 0 (by decide) (hts (.fieldLink RX8 1 "NeighboursMarkModel" "refused" "[I") (by decide +kernel)) (fun _ h9 => h9) rfl dX8_count_58 ?_
                refine lv_iload_n hx hb dX8_count_61 rfl (lv_at hl 1 rfl) ?_
                refine lv_bipush (v := 10) hx hb dX8_count_62 (by decide) ?_
                refine lv_isub hx hb dX8_count_64 ?_
                refine lv_topi (fun x16 ex16 => ?_)
                have ex16 : 4 = x16 := (ex16.trans (by decide)).symm
                subst ex16
                refine va_iald hx hb hK hP 1 0 rfl rfl (by unfold vp_in; decide) dX8_count_65 ?_
                refine lv_topi (fun x17 ex17 => ?_)
                have ex17 : 0 = x17 := (ex17.trans rfl).symm
                subst ex17
                refine lv_goto (tgt := 71) hx hb dX8_count_66 (by decide) ?_
                exact vx_iret (u := ()) hx hb hr hlocks hK hP hD hS [] rfl (by decide) (show (0 : Int32) = f_count 14 by decide) dX8_count_71
              · subst e_a
                refine lv_aload_n hx hb dX8_count_57 rfl (lv_at hl 0 rfl) ?_
                refine va_get (D := (dC, dI)) (ci := 6) (v := .ref r_refused) (C := RX8) (T := TX8) (N := 33) hx hb hts iX8 hown hK hP 0 rfl rfl 0 (by decide) (hts (.fieldLink RX8 1 "NeighboursMarkModel" "refused" "[I") (by decide +kernel)) (fun _ h9 => h9) rfl dX8_count_58 ?_
                refine lv_iload_n hx hb dX8_count_61 rfl (lv_at hl 1 rfl) ?_
                refine lv_bipush (v := 10) hx hb dX8_count_62 (by decide) ?_
                refine lv_isub hx hb dX8_count_64 ?_
                refine lv_topi (fun x18 ex18 => ?_)
                have ex18 : 5 = x18 := (ex18.trans (by decide)).symm
                subst ex18
                refine va_iald hx hb hK hP 1 0 rfl rfl (by unfold vp_in; decide) dX8_count_65 ?_
                refine lv_topi (fun x19 ex19 => ?_)
                have ex19 : 0 = x19 := (ex19.trans rfl).symm
                subst ex19
                refine lv_goto (tgt := 71) hx hb dX8_count_66 (by decide) ?_
                exact vx_iret (u := ()) hx hb hr hlocks hK hP hD hS [] rfl (by decide) (show (0 : Int32) = f_count 15 by decide) dX8_count_71
              · subst e_a
                refine lv_aload_n hx hb dX8_count_57 rfl (lv_at hl 0 rfl) ?_
                refine va_get (D := (dC, dI)) (ci := 6) (v := .ref r_refused) (C := RX8) (T := TX8) (N := 33) hx hb hts iX8 hown hK hP 0 rfl rfl 0 (by decide) (hts (.fieldLink RX8 1 "NeighboursMarkModel" "refused" "[I") (by decide +kernel)) (fun _ h9 => h9) rfl dX8_count_58 ?_
                refine lv_iload_n hx hb dX8_count_61 rfl (lv_at hl 1 rfl) ?_
                refine lv_bipush (v := 10) hx hb dX8_count_62 (by decide) ?_
                refine lv_isub hx hb dX8_count_64 ?_
                refine lv_topi (fun x20 ex20 => ?_)
                have ex20 : 6 = x20 := (ex20.trans (by decide)).symm
                subst ex20
                refine va_iald hx hb hK hP 1 0 rfl rfl (by unfold vp_in; decide) dX8_count_65 ?_
                refine lv_topi (fun x21 ex21 => ?_)
                have ex21 : 0 = x21 := (ex21.trans rfl).symm
                subst ex21
                refine lv_goto (tgt := 71) hx hb dX8_count_66 (by decide) ?_
                exact vx_iret (u := ()) hx hb hr hlocks hK hP hD hS [] rfl (by decide) (show (0 : Int32) = f_count 16 by decide) dX8_count_71
        · skip
          refine lv_aload_n hx hb dX8_count_38 rfl (lv_at hl 0 rfl) ?_
          refine va_get (D := (dC, dI)) (ci := 6) (v := .int 0) (C := RX8) (T := TX8) (N := 33) hx hb hts iX8 hown hK hP 0 rfl rfl 7 (by decide) (hts (.fieldLink RX8 75 "NeighboursMarkModel" "taped" "I") (by decide +kernel)) (fun _ h9 => h9) rfl dX8_count_39 ?_
          refine lv_goto (tgt := 71) hx hb dX8_count_42 (by decide) ?_
          exact vx_iret (u := ()) hx hb hr hlocks hK hP hD hS [] rfl (by decide) (zz_m_count_7 a c1 c5 c6 c7) dX8_count_71
      · skip
        refine lv_aload_n hx hb dX8_count_25 rfl (lv_at hl 0 rfl) ?_
        refine va_get (D := (dC, dI)) (ci := 6) (v := .int 0) (C := RX8) (T := TX8) (N := 33) hx hb hts iX8 hown hK hP 0 rfl rfl 31 (by decide) (hts (.fieldLink RX8 178 "NeighboursMarkModel" "rows" "I") (by decide +kernel)) (fun _ h9 => h9) rfl dX8_count_26 ?_
        refine lv_goto (tgt := 71) hx hb dX8_count_29 (by decide) ?_
        exact vx_iret (u := ()) hx hb hr hlocks hK hP hD hS [] rfl (by decide) (zz_m_count_8 a c1 c5 c6) dX8_count_71
    · skip
      rcases (zz_m_count_9 a c1 c5) with e_a | e_a | e_a | e_a | e_a | e_a
      · subst e_a
        refine lv_aload_n hx hb dX8_count_10 rfl (lv_at hl 0 rfl) ?_
        refine va_get (D := (dC, dI)) (ci := 6) (v := .ref r_now) (C := RX8) (T := TX8) (N := 33) hx hb hts iX8 hown hK hP 0 rfl rfl 1 (by decide) (hts (.fieldLink RX8 13 "NeighboursMarkModel" "now" "[I") (by decide +kernel)) (fun _ h9 => h9) rfl dX8_count_11 ?_
        refine lv_iload_n hx hb dX8_count_14 rfl (lv_at hl 1 rfl) ?_
        refine va_iald hx hb hK hP 2 0 rfl rfl (by unfold vp_in; decide) dX8_count_15 ?_
        refine lv_topi (fun x22 ex22 => ?_)
        have ex22 : 0 = x22 := (ex22.trans rfl).symm
        subst ex22
        refine lv_goto (tgt := 71) hx hb dX8_count_16 (by decide) ?_
        exact vx_iret (u := ()) hx hb hr hlocks hK hP hD hS [] rfl (by decide) (show (0 : Int32) = f_count 0 by decide) dX8_count_71
      · subst e_a
        refine lv_aload_n hx hb dX8_count_10 rfl (lv_at hl 0 rfl) ?_
        refine va_get (D := (dC, dI)) (ci := 6) (v := .ref r_now) (C := RX8) (T := TX8) (N := 33) hx hb hts iX8 hown hK hP 0 rfl rfl 1 (by decide) (hts (.fieldLink RX8 13 "NeighboursMarkModel" "now" "[I") (by decide +kernel)) (fun _ h9 => h9) rfl dX8_count_11 ?_
        refine lv_iload_n hx hb dX8_count_14 rfl (lv_at hl 1 rfl) ?_
        refine va_iald hx hb hK hP 2 0 rfl rfl (by unfold vp_in; decide) dX8_count_15 ?_
        refine lv_topi (fun x23 ex23 => ?_)
        have ex23 : 2 = x23 := (ex23.trans rfl).symm
        subst ex23
        refine lv_goto (tgt := 71) hx hb dX8_count_16 (by decide) ?_
        exact vx_iret (u := ()) hx hb hr hlocks hK hP hD hS [] rfl (by decide) (show (2 : Int32) = f_count 1 by decide) dX8_count_71
      · subst e_a
        refine lv_aload_n hx hb dX8_count_10 rfl (lv_at hl 0 rfl) ?_
        refine va_get (D := (dC, dI)) (ci := 6) (v := .ref r_now) (C := RX8) (T := TX8) (N := 33) hx hb hts iX8 hown hK hP 0 rfl rfl 1 (by decide) (hts (.fieldLink RX8 13 "NeighboursMarkModel" "now" "[I") (by decide +kernel)) (fun _ h9 => h9) rfl dX8_count_11 ?_
        refine lv_iload_n hx hb dX8_count_14 rfl (lv_at hl 1 rfl) ?_
        refine va_iald hx hb hK hP 2 0 rfl rfl (by unfold vp_in; decide) dX8_count_15 ?_
        refine lv_topi (fun x24 ex24 => ?_)
        have ex24 : 0 = x24 := (ex24.trans rfl).symm
        subst ex24
        refine lv_goto (tgt := 71) hx hb dX8_count_16 (by decide) ?_
        exact vx_iret (u := ()) hx hb hr hlocks hK hP hD hS [] rfl (by decide) (show (0 : Int32) = f_count 2 by decide) dX8_count_71
      · subst e_a
        refine lv_aload_n hx hb dX8_count_10 rfl (lv_at hl 0 rfl) ?_
        refine va_get (D := (dC, dI)) (ci := 6) (v := .ref r_now) (C := RX8) (T := TX8) (N := 33) hx hb hts iX8 hown hK hP 0 rfl rfl 1 (by decide) (hts (.fieldLink RX8 13 "NeighboursMarkModel" "now" "[I") (by decide +kernel)) (fun _ h9 => h9) rfl dX8_count_11 ?_
        refine lv_iload_n hx hb dX8_count_14 rfl (lv_at hl 1 rfl) ?_
        refine va_iald hx hb hK hP 2 0 rfl rfl (by unfold vp_in; decide) dX8_count_15 ?_
        refine lv_topi (fun x25 ex25 => ?_)
        have ex25 : 1 = x25 := (ex25.trans rfl).symm
        subst ex25
        refine lv_goto (tgt := 71) hx hb dX8_count_16 (by decide) ?_
        exact vx_iret (u := ()) hx hb hr hlocks hK hP hD hS [] rfl (by decide) (show (1 : Int32) = f_count 3 by decide) dX8_count_71
      · subst e_a
        refine lv_aload_n hx hb dX8_count_10 rfl (lv_at hl 0 rfl) ?_
        refine va_get (D := (dC, dI)) (ci := 6) (v := .ref r_now) (C := RX8) (T := TX8) (N := 33) hx hb hts iX8 hown hK hP 0 rfl rfl 1 (by decide) (hts (.fieldLink RX8 13 "NeighboursMarkModel" "now" "[I") (by decide +kernel)) (fun _ h9 => h9) rfl dX8_count_11 ?_
        refine lv_iload_n hx hb dX8_count_14 rfl (lv_at hl 1 rfl) ?_
        refine va_iald hx hb hK hP 2 0 rfl rfl (by unfold vp_in; decide) dX8_count_15 ?_
        refine lv_topi (fun x26 ex26 => ?_)
        have ex26 : 10 = x26 := (ex26.trans rfl).symm
        subst ex26
        refine lv_goto (tgt := 71) hx hb dX8_count_16 (by decide) ?_
        exact vx_iret (u := ()) hx hb hr hlocks hK hP hD hS [] rfl (by decide) (show (10 : Int32) = f_count 4 by decide) dX8_count_71
      · subst e_a
        refine lv_aload_n hx hb dX8_count_10 rfl (lv_at hl 0 rfl) ?_
        refine va_get (D := (dC, dI)) (ci := 6) (v := .ref r_now) (C := RX8) (T := TX8) (N := 33) hx hb hts iX8 hown hK hP 0 rfl rfl 1 (by decide) (hts (.fieldLink RX8 13 "NeighboursMarkModel" "now" "[I") (by decide +kernel)) (fun _ h9 => h9) rfl dX8_count_11 ?_
        refine lv_iload_n hx hb dX8_count_14 rfl (lv_at hl 1 rfl) ?_
        refine va_iald hx hb hK hP 2 0 rfl rfl (by unfold vp_in; decide) dX8_count_15 ?_
        refine lv_topi (fun x27 ex27 => ?_)
        have ex27 : 1 = x27 := (ex27.trans rfl).symm
        subst ex27
        refine lv_goto (tgt := 71) hx hb dX8_count_16 (by decide) ?_
        exact vx_iret (u := ()) hx hb hr hlocks hK hP hD hS [] rfl (by decide) (show (1 : Int32) = f_count 5 by decide) dX8_count_71
