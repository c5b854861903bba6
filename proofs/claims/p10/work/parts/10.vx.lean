/-! the worlds of contracts: what holds ahead of a method (vx_B) and behind it (vx_C); vx_N: the class's static row and the two nest mates' links -/
def vx_N (A : Nat → Prop) (U : State) (H : Heap) : Prop := va_Nw (.fieldLinkNest RX2 49 RX7 "KIND_LETTERS" "[C" RX7) U ∧ va_Nw (.methodLinkNest RX2 80 yX7_isLaw RX7) U ∧ ∃ (t : Nat) (k : Nat → Int32), va_Z RX7 "KIND_LETTERS" "[C" (.ref t) A U H ∧ va_T .char t 6 (fun j => .int (k j)) A U H
theorem vx_N.at {A B : Nat → Prop} {s U : State} {H0 H : Heap} {locs : List Loc} (h : vx_N A s H0) (hS : va_S A H0 H locs) (hF : ∀ q, B q → A q) (hW : s.WarmedH U.vm) : vx_N B U H := by
  obtain ⟨h1, h2, t, k, hZ, hT⟩ := h
  exact ⟨h1.warmF hW, h2.warmM hW, t, k, ((hZ.kept hS.2.1).narrow hF).moved hW.alike, ((hT.kept hS.2.1).narrow hF).moved hW.alike⟩
def vx_B (D : va_G) (tys : List (ClassId × FieldType)) (sz : Nat) (ws : va_W) (U : State) : Prop := U.heap.size = sz ∧ va_P D vwCl ws U.heap ∧ va_K D vwCl tys U ∧ va_D (fun _ => True) ws ∧ vx_N (va_A ws sz) U U.heap
def vx_C {S : Type} (D : va_G) (tys : List (ClassId × FieldType)) (A : Nat → Prop) (W1 : S → va_W) (u : S) (t : State) : Prop := va_P D vwCl (W1 u) t.heap ∧ va_K D vwCl tys t ∧ va_D A (W1 u)
theorem vx_blind {av : List Value} {D : va_G} {tys : List (ClassId × FieldType)} {sz : Nat} {ws : va_W} : FrameBlind (va_Pc av (vx_B D tys sz ws)) := fun a U g mk q => by
  obtain ⟨q0, q1, qP, qK, qD, h1, h2, t, k, hZ, hT⟩ := q
  exact ⟨q0, q1, qP, va_K.moved (u := U) (U := U.calling g mk a) (Vm.Alike.refl U.vm) qK, qD, va_Nw.same rfl rfl h1, va_Nw.same rfl rfl h2, t, k, va_Z.moved (u := U) (U := U.calling g mk a) (Vm.Alike.refl U.vm) hZ, va_T.moved (u := U) (U := U.calling g mk a) (Vm.Alike.refl U.vm) hT⟩
theorem vx_pre {av : List Value} {D : va_G} {tys : List (ClassId × FieldType)} {ws : va_W} {s : State} {H0 H : Heap} {A : Nat → Prop} {locs : List Loc} (hK : va_K D vwCl tys s) (hP : va_P D vwCl ws H) (hD : va_D A ws) (hN : vx_N A s H0) (hS : va_S A H0 H locs) (hF : ∀ q, va_A ws H.size q → A q) : ∀ U : State, U.heap = H → s.WarmedH U.vm → va_Pc av (vx_B D tys H.size ws) av.toArray U := fun U hU hW => ⟨rfl, by rw [hU], by rw [hU]; exact hP, va_K.moved hW.alike hK, hD.weaken (fun _ _ _ _ => trivial), by rw [hU]; exact hN.at hS hF hW⟩
/-- an array's class is one -/
theorem vx_same {D : va_G} {cl : List vw_C} {tys : List (ClassId × FieldType)} {U : State} {c1 c2 : ClassId} (ty : FieldType) (hty : ∀ c : ClassId, va_RA U c ty = (U.vm.findClass ("[" ++ ty.toString) = some c)) (hK : va_K D cl tys U) (i j : Nat) (h1 : tys[i]? = some (c1, ty)) (h2 : tys[j]? = some (c2, ty)) : c2 = c1 := by
  have a1 := (hK.2 i _ h1).2
  have a2 := (hK.2 j _ h2).2
  rw [hty] at a1 a2
  exact Option.some.inj (a2.symm.trans a1)
section VXC
variable {p : Program} {l : Launch} {e : Env} {R : Room} {s : State} {m : MethodId} {args : Array Value} {below : List Frame} {meth : Method} {c : Code} {H : Heap} {locs : List Loc} {cells slots : Nat} {Q : State → Prop}
variable {D : va_G} {tys : List (ClassId × FieldType)} {ws wc wr : va_W} {A0 : Nat → Prop} {H0 : Heap} {S : Type} {W1 : S → va_W}
variable {y : MethodName} {bytes cc : ByteArray} {maxL nL mc ms n index : Nat} {ret : Option FieldType} {wy : List Cond} {rm : Room} {Ts : List Cond} {own C : String} {b : Addr} {As rest : List Value} {pc : Nat} {ls : Array Slot} {st0 : List Value}
/-- behind a call: the caller's other cells and the callee's world -/
theorem vx_join (hP : va_P D vwCl ws H) (hD : va_D A0 ws) (isC isR : List Nat) (hC : isC.map (fun i => ws[i]?) = wc.map some) (hR : isR.map (fun i => ws[i]?) = wr.map some) (hn : va_nd isR = true) (hdis : (isR.all fun i => !isC.contains i) = true) (hF : ∀ q, va_A wc H.size q → A0 q) {u : S} {t : State} {H1 : Heap} (ht : t.heap = H1) (hk : ∀ q : Nat, q < H.size → ¬ va_A wc H.size q → H1[q]? = H[q]?) (hB : vx_C D tys (va_A wc H.size) W1 u t) : va_P D vwCl (wr ++ W1 u) H1 ∧ va_D A0 (wr ++ W1 u) := by
  obtain ⟨hP1, -, hD1⟩ := hB
  rw [ht] at hP1
  exact va_join hP hD isC isR hC hR hn (fun i hi hc => by
    have h := List.all_eq_true.mp hdis i hi
    simp at h
    exact h hc) hk hF hP1 hD1
/-- a call with an int answer -/
theorem vx_calli {post : Int32 → S → Prop} {a : Array Value} (hP : va_P D vwCl ws H) (hD : va_D A0 ws) (hS : va_S A0 H0 H locs) (hA : ∀ q, H0.size ≤ q → A0 q) (isC isR : List Nat) (hC : isC.map (fun i => ws[i]?) = wc.map some) (hR : isR.map (fun i => ws[i]?) = wr.map some) (hn : va_nd isR = true) (hdis : (isR.all fun i => !isC.contains i) = true)
    (hr : va_Run p l e R s m args below meth c H locs cells slots mc ms (F0 m pc ls st0) rest (va_Qi post (vx_C D tys (va_A wc H.size) W1) (va_A wc H.size) a) (va_A wc H.size))
    (kk : ∀ (r : Int32) (u : S) (H1 : Heap) (locs1 : List Loc), post r u → va_P D vwCl (wr ++ W1 u) H1 → va_D A0 (wr ++ W1 u) → va_S A0 H0 H1 locs1 → W p l e R s m args below meth c H1 locs1 (cells + mc) (slots + ms) Q (F0 m (pc + 3) ls (.int r :: rest))) : W p l e R s m args below meth c H locs cells slots Q (F0 m pc ls st0) := by
  have hF := va_free hD hS hA isC hC
  refine va_calli hr hS (fun q _ h => hF q h) hF (fun r u t H1 locs1 ht hvm hw hB hz1 hk1 hS1 => ?_)
  obtain ⟨hP1, hD1⟩ := vx_join hP hD isC isR hC hR hn hdis hF ht hk1 hB
  exact kk r u H1 locs1 hw hP1 hD1 hS1
/-- a call with no answer -/
theorem vx_callv {post : S → Prop} {a : Array Value} (hP : va_P D vwCl ws H) (hD : va_D A0 ws) (hS : va_S A0 H0 H locs) (hA : ∀ q, H0.size ≤ q → A0 q) (isC isR : List Nat) (hC : isC.map (fun i => ws[i]?) = wc.map some) (hR : isR.map (fun i => ws[i]?) = wr.map some) (hn : va_nd isR = true) (hdis : (isR.all fun i => !isC.contains i) = true)
    (hr : va_Run p l e R s m args below meth c H locs cells slots mc ms (F0 m pc ls st0) rest (va_Qv post (vx_C D tys (va_A wc H.size) W1) (va_A wc H.size) a) (va_A wc H.size))
    (kk : ∀ (u : S) (H1 : Heap) (locs1 : List Loc), post u → va_P D vwCl (wr ++ W1 u) H1 → va_D A0 (wr ++ W1 u) → va_S A0 H0 H1 locs1 → W p l e R s m args below meth c H1 locs1 (cells + mc) (slots + ms) Q (F0 m (pc + 3) ls rest)) : W p l e R s m args below meth c H locs cells slots Q (F0 m pc ls st0) := by
  have hF := va_free hD hS hA isC hC
  refine va_callv hr hS (fun q _ h => hF q h) hF (fun u t H1 locs1 ht hvm hw hB hz1 hk1 hS1 => ?_)
  obtain ⟨hP1, hD1⟩ := vx_join hP hD isC isR hC hR hn hdis hF ht hk1 hB
  exact kk u H1 locs1 hw hP1 hD1 hS1
/-- ends -/
theorem vx_iret {post : Int32 → S → Prop} {v : Int32} (u : S) (hx : p.tables.exec = Jvm.exec) (hb : c.code = cc) (hr : meth.sig.returnType = some .int) (hlocks : meth.locks = false) (hK : va_K D vwCl tys s) (hP : va_P D vwCl ws H) (hD : va_D A0 ws) (hS : va_S A0 s.heap H locs) (is : List Nat) (hs : is.map (fun i => ws[i]?) = (W1 u).map some) (hn : va_nd is = true) (hp : post v u) (hdg : decode cc pc = .ok (.ireturn, 1)) : W p l e R s m args below meth c H locs cells slots (MQ below (va_Qi post (vx_C D tys A0 W1) A0) args s cells slots A0) (F0 m pc ls [.int v]) := by
  have hs' : is.filterMap (fun i => ws[i]?) = W1 u := by
    have h2 : (is.map (fun i => ws[i]?)).filterMap id = ((W1 u).map some).filterMap id := by rw [hs]
    simpa [List.filterMap_map] using h2
  exact W.iret (v := v) hx hb hr (fun t ht hW => ⟨⟨v, u, rfl, hp, by rw [ht]; exact hP.sub is hs', va_K.moved hW.alike hK, hD.sub is hn hs⟩, hS.F ht⟩) hS.2.2 hdg hlocks
theorem vx_zret {post : Int32 → S → Prop} {v : Int32} {ty : FieldType} (u : S) (hx : p.tables.exec = Jvm.exec) (hb : c.code = cc) (hr : meth.sig.returnType = some ty) (hnr : narrow ty (.int v) = .int v) (hlocks : meth.locks = false) (hK : va_K D vwCl tys s) (hP : va_P D vwCl ws H) (hD : va_D A0 ws) (hS : va_S A0 s.heap H locs) (is : List Nat) (hs : is.map (fun i => ws[i]?) = (W1 u).map some) (hn : va_nd is = true) (hp : post v u) (hdg : decode cc pc = .ok (.ireturn, 1)) : W p l e R s m args below meth c H locs cells slots (MQ below (va_Qi post (vx_C D tys A0 W1) A0) args s cells slots A0) (F0 m pc ls [.int v]) := by
  have hs' : is.filterMap (fun i => ws[i]?) = W1 u := by
    have h2 : (is.map (fun i => ws[i]?)).filterMap id = ((W1 u).map some).filterMap id := by rw [hs]
    simpa [List.filterMap_map] using h2
  exact W.zret (v := v) hx hb hr hnr (fun t ht hW => ⟨⟨v, u, rfl, hp, by rw [ht]; exact hP.sub is hs', va_K.moved hW.alike hK, hD.sub is hn hs⟩, hS.F ht⟩) hS.2.2 hdg hlocks
theorem vx_vret {post : S → Prop} (u : S) (hx : p.tables.exec = Jvm.exec) (hb : c.code = cc) (hr : meth.sig.returnType = none) (hlocks : meth.locks = false) (hK : va_K D vwCl tys s) (hP : va_P D vwCl ws H) (hD : va_D A0 ws) (hS : va_S A0 s.heap H locs) (is : List Nat) (hs : is.map (fun i => ws[i]?) = (W1 u).map some) (hn : va_nd is = true) (hp : post u) (hdg : decode cc pc = .ok (.return_, 1)) : W p l e R s m args below meth c H locs cells slots (MQ below (va_Qv post (vx_C D tys A0 W1) A0) args s cells slots A0) (F0 m pc ls []) := by
  have hs' : is.filterMap (fun i => ws[i]?) = W1 u := by
    have h2 : (is.map (fun i => ws[i]?)).filterMap id = ((W1 u).map some).filterMap id := by rw [hs]
    simpa [List.filterMap_map] using h2
  exact W.vret hx hb hr (fun t ht hW => ⟨⟨u, rfl, hp, by rw [ht]; exact hP.sub is hs', va_K.moved hW.alike hK, hD.sub is hn hs⟩, hS.F ht⟩) hS.2.2 hdg hlocks
end VXC
abbrev vx_T (cI cC cZ : ClassId) : List (ClassId × FieldType) := [(cI, .int), (cC, .char), (cZ, .boolean)]
/-! rows of whole numbers -/
theorem vy_rng (x : Int32) : -2147483648 ≤ x.toInt ∧ x.toInt < 2147483648 := by
  have h1 := Int32.le_toInt x
  have h2 := Int32.toInt_lt x
  omega
theorem vy_bmod {z : Int} (h1 : -2147483648 ≤ z) (h2 : z < 2147483648) : z.bmod (2 ^ 32) = z := by
  rw [Int.bmod_eq_of_le (by omega) (by omega)]
theorem vy_add {x y : Int32} {a b : Int} (hx : x.toInt = a) (hy : y.toInt = b) (h1 : -2147483648 ≤ a + b) (h2 : a + b < 2147483648) : (x + y).toInt = a + b := by
  rw [Int32.toInt_add, hx, hy, vy_bmod h1 h2]
theorem vy_sub {x y : Int32} {a b : Int} (hx : x.toInt = a) (hy : y.toInt = b) (h1 : -2147483648 ≤ a - b) (h2 : a - b < 2147483648) : (x - y).toInt = a - b := by
  rw [Int32.toInt_sub, hx, hy, vy_bmod h1 h2]
theorem vy_mul {x y : Int32} {a : Int} (hx : x.toInt = a) (h1 : -2147483648 ≤ a * y.toInt) (h2 : a * y.toInt < 2147483648) : (x * y).toInt = a * y.toInt := by
  rw [Int32.toInt_mul, hx, vy_bmod h1 h2]
theorem vy_neg {x : Int32} (h : x.toInt ≠ -2147483648) : (-x).toInt = -x.toInt := by
  have := vy_rng x
  rw [Int32.toInt_neg, vy_bmod (by omega) (by omega)]
theorem vy_lt {x y : Int32} (h : x < y) : x.toInt < y.toInt := Int32.lt_iff_toInt_lt.mp h
theorem vy_nlt {x y : Int32} (h : ¬ x < y) : y.toInt ≤ x.toInt := Int32.le_iff_toInt_le.mp (Int32.not_lt.mp h)
theorem vy_le {x y : Int32} (h : x ≤ y) : x.toInt ≤ y.toInt := Int32.le_iff_toInt_le.mp h
theorem vy_nle {x y : Int32} (h : ¬ x ≤ y) : y.toInt < x.toInt := Int32.lt_iff_toInt_lt.mp (Int32.not_le.mp h)
theorem vy_eq {x y : Int32} (h : x = y) : x.toInt = y.toInt := congrArg Int32.toInt h
theorem vy_ne {x y : Int32} (h : ¬ x = y) : x.toInt ≠ y.toInt := fun q => h (Int32.toInt_inj.mp q)
theorem vy_ne0 {y : Int32} (h : y.toInt ≠ 0) : ¬ y = 0 := fun q => h (congrArg Int32.toInt q)
theorem vy_nn {y : Int32} (h : 0 ≤ y.toInt) : ¬ y < 0 := fun q => absurd (Int32.lt_iff_toInt_lt.mp q) (Int.not_lt.mpr h)
theorem vy_cl {y : Int32} {n : Nat} (h : 0 ≤ y.toInt) (h2 : y.toInt ≤ n) : (0 : Int32).toNatClampNeg + y.toNatClampNeg ≤ n := by
  have h0 : (0 : Int32).toNatClampNeg = 0 := by decide
  rw [h0]
  show 0 + y.toInt.toNat ≤ n
  omega
theorem vy_max {x y z : Int32} {a b : Int} (e : z = if x < y then y else x) (hx : x.toInt = a) (hy : y.toInt = b) : (a ≤ z.toInt ∧ b ≤ z.toInt) ∧ (z.toInt = a ∨ z.toInt = b) := by
  by_cases h : x < y
  · rw [if_pos h] at e
    have := vy_lt h
    rw [e]
    omega
  · rw [if_neg h] at e
    have := vy_nlt h
    rw [e]
    omega
theorem vy_min {x y z : Int32} {a b : Int} (e : z = if y < x then y else x) (hx : x.toInt = a) (hy : y.toInt = b) : (z.toInt ≤ a ∧ z.toInt ≤ b) ∧ (z.toInt = a ∨ z.toInt = b) := by
  by_cases h : y < x
  · rw [if_pos h] at e
    have := vy_lt h
    rw [e]
    omega
  · rw [if_neg h] at e
    have := vy_nlt h
    rw [e]
    omega
theorem vy_rem {x y z : Int32} {a b : Int} (e : z = x - x / y * y) (hx : x.toInt = a) (hy : y.toInt = b) (h0 : 0 ≤ a) (h1 : 0 < b) : 0 ≤ z.toInt ∧ z.toInt < b := by
  have hxl := vy_rng x
  have hyl := vy_rng y
  obtain ⟨i, hi, rfl⟩ := nI_of (x := x) (vy_nn (by omega))
  obtain ⟨j, hj, rfl⟩ := nI_of (x := y) (vy_nn (by omega))
  rw [nI_toInt hi] at hx
  rw [nI_toInt hj] at hy
  have hj0 : 0 < j := by omega
  rw [pk_rem hi hj0 hj] at e
  have hm := Nat.mod_lt i hj0
  generalize i % j = k at e hm
  rw [e, nI_toInt (by omega)]
  omega
theorem vy_div {x y z : Int32} {a b : Int} (e : z = x / y) (hx : x.toInt = a) (hy : y.toInt = b) (h0 : 0 ≤ a) (h1 : 0 < b) : 0 ≤ z.toInt ∧ z.toInt ≤ a := by
  have hxl := vy_rng x
  have hyl := vy_rng y
  obtain ⟨i, hi, rfl⟩ := nI_of (x := x) (vy_nn (by omega))
  obtain ⟨j, hj, rfl⟩ := nI_of (x := y) (vy_nn (by omega))
  rw [nI_toInt hi] at hx
  rw [nI_toInt hj] at hy
  have hj0 : 0 < j := by omega
  rw [pk_div hi hj0 hj] at e
  have hm := Nat.div_le_self i j
  generalize i / j = k at e hm
  rw [e, nI_toInt (by omega)]
  omega
theorem vy_and {x m z : Int32} (e : z = x &&& m) (k : Nat) (n : Int) (hk : k ≤ 31) (hm : m.toBitVec.toNat = 2 ^ k - 1) (hn : ((2 ^ k : Nat) : Int) = n) : 0 ≤ z.toInt ∧ z.toInt < n := by
  obtain ⟨j, hj, h⟩ := pk_andE x k hm
  have h2 : 2 ^ k ≤ 2 ^ 31 := Nat.pow_le_pow_right (by decide) hk
  rw [e, h, nI_toInt (by omega)]
  omega
theorem vy_fitb {y : Int32} (h : y.toInt = 0 ∨ y.toInt = 1) : fits .boolean (.int y) = true := by
  rcases h with h | h
  · have e : y = 0 := Int32.toInt_inj.mp h
    rw [e]
    rfl
  · have e : y = 1 := Int32.toInt_inj.mp h
    rw [e]
    rfl
theorem vy_bool {y : Int32} (h : y.toInt = 0 ∨ y.toInt = 1) : narrow .boolean (.int y) = .int y := by
  rcases h with h | h
  · have e : y = 0 := Int32.toInt_inj.mp h
    rw [e]
    rfl
  · have e : y = 1 := Int32.toInt_inj.mp h
    rw [e]
    rfl
/-- the reference's seats are in bounds -/
def nok (f : Nat → Int32) : Prop := ∀ j : Nat, 70 ≤ j → j < 80 → 0 ≤ (f j).toInt ∧ (f j).toInt ≤ 5
theorem nk_cl {i : Int32} (h : 0 ≤ i.toInt) : (i.toNatClampNeg : Int) = i.toInt := by
  show ((i.toInt.toNat : Nat) : Int) = i.toInt
  omega
theorem nok_at {f : Nat → Int32} {i : Int32} (h : nok f) (h1 : 70 ≤ i.toInt) (h2 : i.toInt < 80) : 0 ≤ (f i.toNatClampNeg).toInt ∧ (f i.toNatClampNeg).toInt ≤ 5 := by
  have e := nk_cl (i := i) (by omega)
  exact h _ (by omega) (by omega)
theorem nk_ne {i : Int32} {j : Nat} (h : 0 ≤ i.toInt) (h2 : (j : Int) ≠ i.toInt) : j ≠ i.toNatClampNeg := by
  have e := nk_cl (i := i) h
  omega
theorem nok_out {f : Nat → Int32} {i v : Int32} (h : nok f) (h1 : 0 ≤ i.toInt) (h2 : i.toInt < 70) : nok (upd f i.toNatClampNeg v) := by
  intro j a b
  have e := nk_cl (i := i) h1
  rw [pk_un (by omega)]
  exact h j a b
theorem nok_in {f : Nat → Int32} {i v : Int32} (h : nok f) (hv : 0 ≤ v.toInt ∧ v.toInt ≤ 5) : nok (upd f i.toNatClampNeg v) := by
  intro j a b
  by_cases e : j = i.toNatClampNeg
  · rw [e, pk_us]
    exact hv
  · rw [pk_un e]
    exact h j a b
theorem nok_cp {f g : Nat → Int32} (h : nok f) (hc : ∀ j, j < 80 → g j = f j) : nok g := fun j a b => by
  rw [hc j b]
  exact h j a b
