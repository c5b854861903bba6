theorem cp_0 (f g : Nat → Int32) : va_cpy f g 0 0 0 = g := by
  funext k
  show (if 0 ≤ k ∧ k < 0 + 0 then f (0 + (k - 0)) else g k) = g k
  rw [if_neg (by omega)]
theorem cp_S (f g : Nat → Int32) (j : Nat) (hj : j < 2147483648) : upd (va_cpy f g 0 0 j) (nI j).toNatClampNeg (f (nI j).toNatClampNeg) = va_cpy f g 0 0 (j + 1) := by
  rw [nI_clamp hj]
  funext k
  by_cases h : k = j
  · subst h
    rw [pk_us]
    show _ = (if 0 ≤ k ∧ k < 0 + (k + 1) then f (0 + (k - 0)) else g k)
    rw [if_pos (by omega)]
    congr 1
    omega
  · rw [pk_un h]
    show (if 0 ≤ k ∧ k < 0 + j then f (0 + (k - 0)) else g k) = (if 0 ≤ k ∧ k < 0 + (j + 1) then f (0 + (k - 0)) else g k)
    by_cases h2 : k < j
    · rw [if_pos (by omega), if_pos (by omega)]
    · rw [if_neg (by omega), if_neg (by omega)]
theorem cp_at (f g : Nat → Int32) {j : Nat} (hj : j < 80) : va_cpy f g 0 0 80 j = f j := by
  show (if 0 ≤ j ∧ j < 0 + 80 then f (0 + (j - 0)) else g j) = f j
  rw [if_pos (by omega)]
  congr 1
  omega
set_option maxHeartbeats 4000000 in
set_option maxRecDepth 100000 in
theorem r_move (l : Launch) (dC : Nat → ClassId) (dI : Nat → Nat → Nat) (cI cC cZ : ClassId) (sz : Nat) (h0 h1 : Nat) (f g : Nat → Int32) : Met l yX8_move wsX8_move ({ frames := 0, cells := 0, slots := 0, locals := 0 }) (va_Pc [.ref h0, .ref h1] (vx_B (dC, dI) (vx_T cI cC cZ) sz [(h0, .inl (cI, 80, .inl f)), (h1, .inl (cI, 80, .inl g))])) (va_Qv (fun (u : (Nat → Int32) × (Nat → Nat → Int32)) => (∀ j, j < 80 → u.2 0 j = f j) ∧ True) (vx_C (dC, dI) (vx_T cI cC cZ) (va_A [(h0, .inl (cI, 80, .inl f)), (h1, .inl (cI, 80, .inl g))] sz) (fun (u : (Nat → Int32) × (Nat → Nat → Int32)) => [(h0, .inl (cI, 80, .inl f)), (h1, .inl (cI, 80, .inl (u.2 0)))])) (va_A [(h0, .inl (cI, 80, .inl f)), (h1, .inl (cI, 80, .inl g))] sz)) 0 0 (va_A [(h0, .inl (cI, 80, .inl f)), (h1, .inl (cI, 80, .inl g))] sz) := by
  refine Met.ofW (cc := cX8_move) (maxL := 3) (ret := none) (by decide) rfl ?_
  intro p e s m args below meth c s₁ B hml hv
  obtain ⟨rfl, hsz, hP, hK, hD0, hN⟩ := hv
  have hx := B.exec
  have hb := B.bytes
  have hr := B.returns
  have hts := atoms_spec (ws := wsX8_move) B.pre
  have hown : s.vm.findClass RX8 = some m.cls := findClass_of_methodNamed B.named
  have hlocks := B.notSynchronized
  subst hsz
  have hD := hD0.self (sz := s.heap.size)
  generalize hAe : va_A [(h0, .inl (cI, 80, .inl f)), (h1, .inl (cI, 80, .inl g))] s.heap.size = A at hD hN ⊢
  have hA : ∀ q : Nat, s.heap.size ≤ q → A q := fun q h => by rw [← hAe]; exact Or.inr h
  have hS : va_S A s.heap s.heap [] := va_S.rf
  have hl := lv_entry ([.ref h0, .ref h1]) (n := 3) (Nat.le_of_ble_eq_true rfl)
  rw [lg_entry_eq]
  generalize (lg_sl ([.ref h0, .ref h1]) ++ List.replicate (3 - (lg_sl ([.ref h0, .ref h1])).length) Slot.unset).toArray = ls at hl ⊢
  have hl : lv_has ls 3 [(0, .ref h0), (1, .ref h1)] := hl
  refine lv_iconst (v := 0) hx hb dX8_move_0 (by decide) ?_
  refine lv_istore_n (lv' := [(2, .int 0), (0, .ref h0), (1, .ref h1)]) hx hb dX8_move_1 rfl hl (by decide) rfl (fun ls hl => ?_)
  have hP : va_P (dC, dI) vwCl [(h0, .inl (cI, 80, .inl f)), (h1, .inl (cI, 80, .inl (va_cpy f g 0 0 0)))] s.heap := by rw [cp_0]; exact hP
  have hD : va_D A [(h0, .inl (cI, 80, .inl f)), (h1, .inl (cI, 80, .inl (va_cpy f g 0 0 0)))] := by rw [cp_0]; exact hD
  have loop : ∀ (d : Nat) (j : Nat), j ≤ 80 → 80 - j < d → ∀ (H : Heap) (locs : List Loc) (ls : Array Slot), lv_has ls 3 [(2, .int (nI j)), (0, .ref h0), (1, .ref h1)] → va_P (dC, dI) vwCl [(h0, .inl (cI, 80, .inl f)), (h1, .inl (cI, 80, .inl (va_cpy f g 0 0 j)))] H → va_D A [(h0, .inl (cI, 80, .inl f)), (h1, .inl (cI, 80, .inl (va_cpy f g 0 0 j)))] → va_S A s.heap H locs → W p l e (headSpec wsX8_move ({ frames := 0, cells := 0, slots := 0, locals := 0 })).room s m ([.ref h0, .ref h1].toArray) below meth c H locs 0 0 (MQ below (va_Qv (fun (u : (Nat → Int32) × (Nat → Nat → Int32)) => (∀ j, j < 80 → u.2 0 j = f j) ∧ True) (vx_C (dC, dI) (vx_T cI cC cZ) A (fun (u : (Nat → Int32) × (Nat → Nat → Int32)) => [(h0, .inl (cI, 80, .inl f)), (h1, .inl (cI, 80, .inl (u.2 0)))])) A) ([.ref h0, .ref h1].toArray) s 0 0 A) (F0 m 2 ls []) := by
    intro d
    induction d with
    | zero => intro j hj hd; exfalso; omega
    | succ d ih =>
      intro j hj hd H locs ls hl hP hD hS
      refine lv_iload_n hx hb dX8_move_2 rfl (lv_at hl 0 rfl) ?_
      refine lv_bipush (v := 80) hx hb dX8_move_3 (by decide) ?_
      refine lv_icmp_ge (tgt := 20) hx hb dX8_move_5 (by decide) (fun c1 => ?_) (fun c1 => ?_)
      · skip
        have hje : j = 80 := by have hz := (nI_leI (a := 80) (b := j) (by decide) (by omega)).mp c1; omega
        subst hje
        exact vx_vret (u := ((fun _ => 0), (fun _ => va_cpy f g 0 0 80))) hx hb hr hlocks hK hP hD hS [0, 1] rfl (by decide) ⟨fun j hj => cp_at f g hj, trivial⟩ dX8_move_20
      · skip
        have hlt : j < 80 := Nat.lt_of_not_le (fun h => c1 (nI_le (a := 80) (b := j) h (by omega)))
        refine lv_aload_n hx hb dX8_move_8 rfl (lv_at hl 2 rfl) ?_
        refine lv_iload_n hx hb dX8_move_9 rfl (lv_at hl 0 rfl) ?_
        refine lv_aload_n hx hb dX8_move_10 rfl (lv_at hl 1 rfl) ?_
        refine lv_iload_n hx hb dX8_move_11 rfl (lv_at hl 0 rfl) ?_
        refine va_iald hx hb hK hP 0 0 rfl rfl (vp_in_nI (show j < 80 by omega) (by decide)) dX8_move_12 ?_
        refine lv_topi (fun x2 ex2 => ?_)
        refine va_iast hx hb hK hP hD hS 1 0 rfl rfl (vp_in_nI (show j < 80 by omega) (by decide)) dX8_move_13 (fun H locs hP hD hS => ?_)
        have hP : va_P (dC, dI) vwCl [(h0, .inl (cI, 80, .inl f)), (h1, .inl (cI, 80, .inl (upd (va_cpy f g 0 0 j) (nI j).toNatClampNeg x2)))] H := hP
        have hD : va_D A [(h0, .inl (cI, 80, .inl f)), (h1, .inl (cI, 80, .inl (upd (va_cpy f g 0 0 j) (nI j).toNatClampNeg x2)))] := hD
        have hcp := cp_S f g j (by omega)
        rw [← ex2] at hcp
        have hP : va_P (dC, dI) vwCl [(h0, .inl (cI, 80, .inl f)), (h1, .inl (cI, 80, .inl (va_cpy f g 0 0 (j + 1))))] H := by rw [← hcp]; exact hP
        have hD : va_D A [(h0, .inl (cI, 80, .inl f)), (h1, .inl (cI, 80, .inl (va_cpy f g 0 0 (j + 1))))] := by rw [← hcp]; exact hD
        refine lv_iinc (v := (nI (j + 1))) (lv' := [(2, .int (nI (j + 1))), (0, .ref h0), (1, .ref h1)]) hx hb dX8_move_14 hl (k := 0) rfl (nI_1 j) (by decide) rfl (fun ls hl => ?_)
        refine lv_goto (tgt := 2) hx hb dX8_move_17 (by decide) ?_
        exact ih (j + 1) (by omega) (by omega) _ _ _ (lv_sub hl [0, 1, 2] rfl) (hP.sub [0, 1] rfl) (hD.sub [0, 1] (by decide) rfl) hS
  exact loop 81 0 (by omega) (by omega) _ _ _ (lv_sub hl [0, 1, 2] rfl) (hP.sub [0, 1] rfl) (hD.sub [0, 1] (by decide) rfl) hS
theorem zz_r_isNobody_0 (pp : Int32) (h0 : ¬ pp < (0 : Int32)) (h1 : pp < (0 : Int32)) : False := by
  have e0 : (0 : Int32).toInt = 0 := by decide
  try simp only [Int32.lt_iff_toInt_lt, Int32.le_iff_toInt_le, ← Int32.toInt_inj, e0] at h0
  try simp only [Int32.lt_iff_toInt_lt, Int32.le_iff_toInt_le, ← Int32.toInt_inj, e0] at h1
  omega
