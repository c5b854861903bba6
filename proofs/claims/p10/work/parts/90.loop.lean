/-- the class of arrays of a plain type -/
theorem vx_arr {s : State} {args : Array Value} {ty : FieldType} (hty : ∀ c : ClassId, va_RA s c ty = (s.vm.findClass ("[" ++ ty.toString) = some c)) (h : (Cond.arrayClass ty).before args s = true) : ∃ cA : ClassId, ArrOfT s cA ty ∧ va_RA s cA ty := by
  obtain ⟨cA, kA, comp, hfind, hk, hkind⟩ := Cond.arrayClass_spec h
  refine ⟨cA, fun n z => ⟨fun k h => (by cases h), kA, hk, comp, hkind⟩, ?_⟩
  rw [hty]
  exact hfind

set_option maxHeartbeats 8000000 in
set_option maxRecDepth 100000 in
/-- the law's loop -/
theorem lw_loop {p : Program} {e : Env} {s : State} {m : MethodId} {below : List Frame} {meth : Method} {c : Code} (l : Launch) {b L : Nat} {xs : Nat → Int32} (hx : p.tables.exec = Jvm.exec) (hb : c.code = code) (hr : meth.sig.returnType = ret) (hml : c.maxLocals = 4) (hown : s.vm.findClass RL = some m.cls) (hts : ∀ w ∈ wsL_law, w.before #[Value.ref b] s = true) (hX : va_X b L xs s s.heap) (hbl : b < s.heap.size) (hlocks : meth.locks = false) (dC : Nat → ClassId) (dI : Nat → Nat → Nat) (cI cC cZ : ClassId) (hK : va_K (dC, dI) vwCl (vx_T cI cC cZ) s) (A : Nat → Prop) (hAe : A = fun q => s.heap.size ≤ q) (hA : ∀ q : Nat, s.heap.size ≤ q → A q) (hbA : ¬ A b) (hN : vx_N A s s.heap)  (q0 q1 : Nat) (ux um : Nat → Nat) (hL : L ≤ 192) : ∀ (d : Nat) (ii : Int32) (av : Nat) (g : Nat → Int32) (w : Nat → Nat → Int32), lw_I g w → 0 ≤ ii.toInt → ii.toInt ≤ (L : Int) → (L : Int) - ii.toInt < (d : Int) → ∀ (H : Heap) (locs : List Loc) (ls : Array Slot), lv_has ls 4 [(3, .int ii), (2, .ref q1), (1, .ref q0), (0, .ref b)] → va_P (dC, dI) vwCl (lw_XM cI cC cZ q0 q1 ux um av g w) H → va_D A (lw_XM cI cC cZ q0 q1 ux um av g w) → va_S A s.heap H locs → W p l e room_1 s m #[Value.ref b] below meth c H locs 90 1116 (lw_Z below #[Value.ref b] s) (F0 m 18 ls []) := by
  intro d
  induction d with
  | zero => intro ii av g w hI h0 h1 h2; exfalso; omega
  | succ d ih =>
    intro ii av g w hI h0 h1 h2 H locs ls hl hP hD hS
    refine lv_iload_n hx hb dL_law_18 rfl (lv_at hl 0 rfl) ?_
    refine lv_aload_n hx hb dL_law_19 rfl (lv_at hl 3 rfl) ?_
    refine va_slen hx hb hX hbl hbA hS dL_law_20 ?_
    refine lv_iconst (v := 3) hx hb dL_law_21 (by decide) ?_
    refine lv_isub hx hb dL_law_22 ?_
    refine lv_topi (fun x ex => ?_)
    have hLt : (Int32.ofNat L).toInt = (L : Int) := nI_toInt (n := L) (by omega)
    have fx : x.toInt = (L : Int) - 3 := by rw [ex]; exact vy_sub (y := 3) hLt (by decide) (by omega) (by omega)
    refine lv_icmp_gt (tgt := 895) hx hb dL_law_23 (by decide) (fun c0 => ?_) (fun c0 => ?_)
    · refine lv_iconst (v := 1) hx hb dL_law_895 (by decide) ?_
      refine va_forget (fun z hz => by have h9 := hS.2.2 z hz; rw [hAe] at h9; exact h9) ?_
      refine W.widen (k := 600000) (n := 7302250) (Nat.le_of_ble_eq_true rfl) (Nat.le_of_ble_eq_true rfl) ?_
      exact lw_ret hx hb hr hlocks dL_law_896
    · have c1 : ii.toInt ≤ x.toInt := vy_nlt c0
      have h3 : (3 : Int32).toInt = 3 := by decide
      have f3 : (ii + 3).toInt = ii.toInt + 3 := vy_add (x := ii) (y := 3) rfl h3 (by omega) (by omega)
      have ih2 := fun (av : Nat) (g : Nat → Int32) (w : Nat → Nat → Int32) (hI : lw_I g w) => ih (ii + 3) av g w hI (by omega) (by omega) (by omega)
      clear ih
      refine lv_aload_n hx hb dL_law_26 rfl (lv_at hl 3 rfl) ?_
      refine lv_iload_n hx hb dL_law_27 rfl (lv_at hl 0 rfl) ?_
      refine va_sld hx hb hX hbl hbA hS (vp_in_iff.mpr ⟨by omega, by omega⟩) dL_law_28 ?_
      refine lv_topi (fun z ez => ?_)
      refine lv_bipush (v := 63) hx hb dL_law_29 (by decide) ?_
      refine lv_iand hx hb dL_law_31 ?_
      obtain ⟨j, hj, hjx⟩ := pk_andE z (m := 63) 6 (by decide)
      refine lv_topi (fun y ey => ?_)
      have ey : nI j = y := (ey.trans hjx).symm
      subst ey
      have hj : j < 64 := hj
      have hiL : ii.toInt + 3 ≤ (L : Int) := by omega
      rcases (show j = 0 ∨ j = 1 ∨ j = 2 ∨ j = 3 ∨ j = 4 ∨ j = 5 ∨ j = 6 ∨ j = 7 ∨ j = 8 ∨ j = 9 ∨ j = 10 ∨ j = 11 ∨ j = 12 ∨ j = 13 ∨ j = 14 ∨ j = 15 ∨ j = 16 ∨ j = 17 ∨ j = 18 ∨ j = 19 ∨ j = 20 ∨ j = 21 ∨ j = 22 ∨ j = 23 ∨ j = 24 ∨ j = 25 ∨ j = 26 ∨ j = 27 ∨ j = 28 ∨ j = 29 ∨ j = 30 ∨ j = 31 ∨ j = 32 ∨ 33 ≤ j by omega) with rfl | rfl | rfl | rfl | rfl | rfl | rfl | rfl | rfl | rfl | rfl | rfl | rfl | rfl | rfl | rfl | rfl | rfl | rfl | rfl | rfl | rfl | rfl | rfl | rfl | rfl | rfl | rfl | rfl | rfl | rfl | rfl | rfl | hge
      · refine lv_tableIn (off := 148) (tgt := 180) hx hb dL_law_32 (by decide) (by decide) (by decide) (by decide) ?_
        exact lw_case0 l hx hb hr hml hown hts hX hbl hlocks dC dI cI cC cZ hK A hA hbA hN q0 q1 ux um av g w hI ii h0 hiL hL ih2 hl hP hD hS
      · refine lv_tableIn (off := 171) (tgt := 203) hx hb dL_law_32 (by decide) (by decide) (by decide) (by decide) ?_
        exact lw_case1 l hx hb hr hml hown hts hX hbl hlocks dC dI cI cC cZ hK A hA hbA hN q0 q1 ux um av g w hI ii h0 hiL hL ih2 hl hP hD hS
      · refine lv_tableIn (off := 184) (tgt := 216) hx hb dL_law_32 (by decide) (by decide) (by decide) (by decide) ?_
        exact lw_case2 l hx hb hr hml hown hts hX hbl hlocks dC dI cI cC cZ hK A hA hbA hN q0 q1 ux um av g w hI ii h0 hiL hL ih2 hl hP hD hS
      · refine lv_tableIn (off := 217) (tgt := 249) hx hb dL_law_32 (by decide) (by decide) (by decide) (by decide) ?_
        exact lw_case3 l hx hb hr hml hown hts hX hbl hlocks dC dI cI cC cZ hK A hA hbA hN q0 q1 ux um av g w hI ii h0 hiL hL ih2 hl hP hD hS
      · refine lv_tableIn (off := 250) (tgt := 282) hx hb dL_law_32 (by decide) (by decide) (by decide) (by decide) ?_
        exact lw_case4 l hx hb hr hml hown hts hX hbl hlocks dC dI cI cC cZ hK A hA hbA hN q0 q1 ux um av g w hI ii h0 hiL hL ih2 hl hP hD hS
      · refine lv_tableIn (off := 283) (tgt := 315) hx hb dL_law_32 (by decide) (by decide) (by decide) (by decide) ?_
        exact lw_case5 l hx hb hr hml hown hts hX hbl hlocks dC dI cI cC cZ hK A hA hbA hN q0 q1 ux um av g w hI ii h0 hiL hL ih2 hl hP hD hS
      · refine lv_tableIn (off := 316) (tgt := 348) hx hb dL_law_32 (by decide) (by decide) (by decide) (by decide) ?_
        exact lw_case6 l hx hb hr hml hown hts hX hbl hlocks dC dI cI cC cZ hK A hA hbA hN q0 q1 ux um av g w hI ii h0 hiL hL ih2 hl hP hD hS
      · refine lv_tableIn (off := 339) (tgt := 371) hx hb dL_law_32 (by decide) (by decide) (by decide) (by decide) ?_
        exact lw_case7 l hx hb hr hml hown hts hX hbl hlocks dC dI cI cC cZ hK A hA hbA hN q0 q1 ux um av g w hI ii h0 hiL hL ih2 hl hP hD hS
      · refine lv_tableIn (off := 362) (tgt := 394) hx hb dL_law_32 (by decide) (by decide) (by decide) (by decide) ?_
        exact lw_case8 l hx hb hr hml hown hts hX hbl hlocks dC dI cI cC cZ hK A hA hbA hN q0 q1 ux um av g w hI ii h0 hiL hL ih2 hl hP hD hS
      · refine lv_tableIn (off := 375) (tgt := 407) hx hb dL_law_32 (by decide) (by decide) (by decide) (by decide) ?_
        exact lw_case9 l hx hb hr hml hown hts hX hbl hlocks dC dI cI cC cZ hK A hA hbA hN q0 q1 ux um av g w hI ii h0 hiL hL ih2 hl hP hD hS
      · refine lv_tableIn (off := 398) (tgt := 430) hx hb dL_law_32 (by decide) (by decide) (by decide) (by decide) ?_
        exact lw_case10 l hx hb hr hml hown hts hX hbl hlocks dC dI cI cC cZ hK A hA hbA hN q0 q1 ux um av g w hI ii h0 hiL hL ih2 hl hP hD hS
      · refine lv_tableIn (off := 421) (tgt := 453) hx hb dL_law_32 (by decide) (by decide) (by decide) (by decide) ?_
        exact lw_case11 l hx hb hr hml hown hts hX hbl hlocks dC dI cI cC cZ hK A hA hbA hN q0 q1 ux um av g w hI ii h0 hiL hL ih2 hl hP hD hS
      · refine lv_tableIn (off := 434) (tgt := 466) hx hb dL_law_32 (by decide) (by decide) (by decide) (by decide) ?_
        exact lw_case12 l hx hb hr hml hown hts hX hbl hlocks dC dI cI cC cZ hK A hA hbA hN q0 q1 ux um av g w hI ii h0 hiL hL ih2 hl hP hD hS
      · refine lv_tableIn (off := 447) (tgt := 479) hx hb dL_law_32 (by decide) (by decide) (by decide) (by decide) ?_
        exact lw_case13 l hx hb hr hml hown hts hX hbl hlocks dC dI cI cC cZ hK A hA hbA hN q0 q1 ux um av g w hI ii h0 hiL hL ih2 hl hP hD hS
      · refine lv_tableIn (off := 480) (tgt := 512) hx hb dL_law_32 (by decide) (by decide) (by decide) (by decide) ?_
        exact lw_case14 l hx hb hr hml hown hts hX hbl hlocks dC dI cI cC cZ hK A hA hbA hN q0 q1 ux um av g w hI ii h0 hiL hL ih2 hl hP hD hS
      · refine lv_tableIn (off := 493) (tgt := 525) hx hb dL_law_32 (by decide) (by decide) (by decide) (by decide) ?_
        exact lw_case15 l hx hb hr hml hown hts hX hbl hlocks dC dI cI cC cZ hK A hA hbA hN q0 q1 ux um av g w hI ii h0 hiL hL ih2 hl hP hD hS
      · refine lv_tableIn (off := 516) (tgt := 548) hx hb dL_law_32 (by decide) (by decide) (by decide) (by decide) ?_
        exact lw_case16 l hx hb hr hml hown hts hX hbl hlocks dC dI cI cC cZ hK A hA hbA hN q0 q1 ux um av g w hI ii h0 hiL hL ih2 hl hP hD hS
      · refine lv_tableIn (off := 539) (tgt := 571) hx hb dL_law_32 (by decide) (by decide) (by decide) (by decide) ?_
        exact lw_case17 l hx hb hr hml hown hts hX hbl hlocks dC dI cI cC cZ hK A hA hbA hN q0 q1 ux um av g w hI ii h0 hiL hL ih2 hl hP hD hS
      · refine lv_tableIn (off := 552) (tgt := 584) hx hb dL_law_32 (by decide) (by decide) (by decide) (by decide) ?_
        exact lw_case18 l hx hb hr hml hown hts hX hbl hlocks dC dI cI cC cZ hK A hA hbA hN q0 q1 ux um av g w hI ii h0 hiL hL ih2 hl hP hD hS
      · refine lv_tableIn (off := 575) (tgt := 607) hx hb dL_law_32 (by decide) (by decide) (by decide) (by decide) ?_
        exact lw_case19 l hx hb hr hml hown hts hX hbl hlocks dC dI cI cC cZ hK A hA hbA hN q0 q1 ux um av g w hI ii h0 hiL hL ih2 hl hP hD hS
      · refine lv_tableIn (off := 598) (tgt := 630) hx hb dL_law_32 (by decide) (by decide) (by decide) (by decide) ?_
        exact lw_case20 l hx hb hr hml hown hts hX hbl hlocks dC dI cI cC cZ hK A hA hbA hN q0 q1 ux um av g w hI ii h0 hiL hL ih2 hl hP hD hS
      · refine lv_tableIn (off := 611) (tgt := 643) hx hb dL_law_32 (by decide) (by decide) (by decide) (by decide) ?_
        exact lw_case21 l hx hb hr hml hown hts hX hbl hlocks dC dI cI cC cZ hK A hA hbA hN q0 q1 ux um av g w hI ii h0 hiL hL ih2 hl hP hD hS
      · refine lv_tableIn (off := 624) (tgt := 656) hx hb dL_law_32 (by decide) (by decide) (by decide) (by decide) ?_
        exact lw_case22 l hx hb hr hml hown hts hX hbl hlocks dC dI cI cC cZ hK A hA hbA hN q0 q1 ux um av g w hI ii h0 hiL hL ih2 hl hP hD hS
      · refine lv_tableIn (off := 647) (tgt := 679) hx hb dL_law_32 (by decide) (by decide) (by decide) (by decide) ?_
        exact lw_case23 l hx hb hr hml hown hts hX hbl hlocks dC dI cI cC cZ hK A hA hbA hN q0 q1 ux um av g w hI ii h0 hiL hL ih2 hl hP hD hS
      · refine lv_tableIn (off := 680) (tgt := 712) hx hb dL_law_32 (by decide) (by decide) (by decide) (by decide) ?_
        exact lw_case24 l hx hb hr hml hown hts hX hbl hlocks dC dI cI cC cZ hK A hA hbA hN q0 q1 ux um av g w hI ii h0 hiL hL ih2 hl hP hD hS
      · refine lv_tableIn (off := 703) (tgt := 735) hx hb dL_law_32 (by decide) (by decide) (by decide) (by decide) ?_
        exact lw_case25 l hx hb hr hml hown hts hX hbl hlocks dC dI cI cC cZ hK A hA hbA hN q0 q1 ux um av g w hI ii h0 hiL hL ih2 hl hP hD hS
      · refine lv_tableIn (off := 726) (tgt := 758) hx hb dL_law_32 (by decide) (by decide) (by decide) (by decide) ?_
        exact lw_case26 l hx hb hr hml hown hts hX hbl hlocks dC dI cI cC cZ hK A hA hbA hN q0 q1 ux um av g w hI ii h0 hiL hL ih2 hl hP hD hS
      · refine lv_tableIn (off := 749) (tgt := 781) hx hb dL_law_32 (by decide) (by decide) (by decide) (by decide) ?_
        exact lw_case27 l hx hb hr hml hown hts hX hbl hlocks dC dI cI cC cZ hK A hA hbA hN q0 q1 ux um av g w hI ii h0 hiL hL ih2 hl hP hD hS
      · refine lv_tableIn (off := 762) (tgt := 794) hx hb dL_law_32 (by decide) (by decide) (by decide) (by decide) ?_
        exact lw_case28 l hx hb hr hml hown hts hX hbl hlocks dC dI cI cC cZ hK A hA hbA hN q0 q1 ux um av g w hI ii h0 hiL hL ih2 hl hP hD hS
      · refine lv_tableIn (off := 775) (tgt := 807) hx hb dL_law_32 (by decide) (by decide) (by decide) (by decide) ?_
        exact lw_case29 l hx hb hr hml hown hts hX hbl hlocks dC dI cI cC cZ hK A hA hbA hN q0 q1 ux um av g w hI ii h0 hiL hL ih2 hl hP hD hS
      · refine lv_tableIn (off := 808) (tgt := 840) hx hb dL_law_32 (by decide) (by decide) (by decide) (by decide) ?_
        exact lw_case30 l hx hb hr hml hown hts hX hbl hlocks dC dI cI cC cZ hK A hA hbA hN q0 q1 ux um av g w hI ii h0 hiL hL ih2 hl hP hD hS
      · refine lv_tableIn (off := 821) (tgt := 853) hx hb dL_law_32 (by decide) (by decide) (by decide) (by decide) ?_
        exact lw_case31 l hx hb hr hml hown hts hX hbl hlocks dC dI cI cC cZ hK A hA hbA hN q0 q1 ux um av g w hI ii h0 hiL hL ih2 hl hP hD hS
      · refine lv_tableIn (off := 834) (tgt := 866) hx hb dL_law_32 (by decide) (by decide) (by decide) (by decide) ?_
        exact lw_case32 l hx hb hr hml hown hts hX hbl hlocks dC dI cI cC cZ hK A hA hbA hN q0 q1 ux um av g w hI ii h0 hiL hL ih2 hl hP hD hS
      · refine lv_tableOut (tgt := 889) hx hb dL_law_32 (Or.inr (by rw [nI_toInt (by omega)]; omega)) (by decide) ?_
        exact lw_case33 l hx hb hr hml hown hts hX hbl hlocks dC dI cI cC cZ hK A hA hbA hN q0 q1 ux um av g w hI ii h0 hiL hL ih2 hl hP hD hS
