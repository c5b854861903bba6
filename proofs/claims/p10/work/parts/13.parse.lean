/-! what a STATEMENT's letters come to, over whole numbers: n how many letters, w well or not, a the place; behind it the answer, the place, well or not -/
def OneB (tf : Nat → Int32) (n w a r a' w' : Int) : Prop := (w = 1 ∧ a < n ∧ (((tf a.toNat).toInt = 112 ∧ r = 0) ∨ ((tf a.toNat).toInt = 104 ∧ r = 1) ∨ ((tf a.toNat).toInt = 108 ∧ r = 2) ∨ ((tf a.toNat).toInt = 114 ∧ r = 3) ∨ ((tf a.toNat).toInt = 119 ∧ r = 4) ∨ ((tf a.toNat).toInt = 120 ∧ r = 5) ∨ ((tf a.toNat).toInt = 109 ∧ r = 6)) ∧ a' = a + 1 ∧ w' = 1) ∨ ((w ≠ 1 ∨ n ≤ a ∨ ((tf a.toNat).toInt ≠ 112 ∧ (tf a.toNat).toInt ≠ 104 ∧ (tf a.toNat).toInt ≠ 108 ∧ (tf a.toNat).toInt ≠ 114 ∧ (tf a.toNat).toInt ≠ 119 ∧ (tf a.toNat).toInt ≠ 120 ∧ (tf a.toNat).toInt ≠ 109)) ∧ r = 0 ∧ a' = a ∧ w' = 0)
def OneK (tf : Nat → Int32) (n w a r a' w' : Int) : Prop := (w = 1 ∧ a < n ∧ (((tf a.toNat).toInt = 115 ∧ r = 0) ∨ ((tf a.toNat).toInt = 108 ∧ r = 1) ∨ ((tf a.toNat).toInt = 104 ∧ r = 2) ∨ ((tf a.toNat).toInt = 116 ∧ r = 3) ∨ ((tf a.toNat).toInt = 98 ∧ r = 4) ∨ ((tf a.toNat).toInt = 111 ∧ r = 5)) ∧ a' = a + 1 ∧ w' = 1) ∨ ((w ≠ 1 ∨ n ≤ a ∨ ((tf a.toNat).toInt ≠ 115 ∧ (tf a.toNat).toInt ≠ 108 ∧ (tf a.toNat).toInt ≠ 104 ∧ (tf a.toNat).toInt ≠ 116 ∧ (tf a.toNat).toInt ≠ 98 ∧ (tf a.toNat).toInt ≠ 111)) ∧ r = 0 ∧ a' = a ∧ w' = 0)
def Fig1 (tf : Nat → Int32) (n w a r a' w' : Int) : Prop := (w = 1 ∧ a < n ∧ 48 ≤ (tf a.toNat).toInt ∧ (tf a.toNat).toInt ≤ 57 ∧ r = (tf a.toNat).toInt - 48 ∧ a' = a + 1 ∧ w' = 1) ∨ ((w ≠ 1 ∨ n ≤ a ∨ (tf a.toNat).toInt < 48 ∨ 57 < (tf a.toNat).toInt) ∧ r = 0 ∧ a' = a ∧ w' = 0)
def Fig2 (tf : Nat → Int32) (n w a r a' w' : Int) : Prop := (w = 1 ∧ a < n ∧ 48 ≤ (tf a.toNat).toInt ∧ (tf a.toNat).toInt ≤ 57 ∧ ((a + 1 < n ∧ 48 ≤ (tf (a + 1).toNat).toInt ∧ (tf (a + 1).toNat).toInt ≤ 57 ∧ r = 10 * ((tf a.toNat).toInt - 48) + ((tf (a + 1).toNat).toInt - 48) ∧ a' = a + 2) ∨ ((n ≤ a + 1 ∨ (tf (a + 1).toNat).toInt < 48 ∨ 57 < (tf (a + 1).toNat).toInt) ∧ r = (tf a.toNat).toInt - 48 ∧ a' = a + 1)) ∧ w' = 1) ∨ ((w ≠ 1 ∨ n ≤ a ∨ (tf a.toNat).toInt < 48 ∨ 57 < (tf a.toNat).toInt) ∧ r = 0 ∧ a' = a ∧ w' = 0)
def Semi (tf : Nat → Int32) (n w a w' a' : Int) : Prop := (w = 1 ∧ a < n ∧ (tf a.toNat).toInt = 59 ∧ a' = a + 1 ∧ w' = 1) ∨ ((w ≠ 1 ∨ n ≤ a ∨ (tf a.toNat).toInt ≠ 59) ∧ a' = a ∧ w' = 0)
def Stm (tf : Nat → Int32) (n w a so f0 f1 f2 w' a' : Int) : Prop := ∃ a1 w1, OneB tf n w a so a1 w1 ∧ ((so = 0 ∧ ∃ a2 w2 a3 w3 a4 w4, OneK tf n w1 a1 f0 a2 w2 ∧ Fig1 tf n w2 a2 f1 a3 w3 ∧ Fig1 tf n w3 a3 f2 a4 w4 ∧ Semi tf n w4 a4 w' a') ∨ (so = 5 ∧ ∃ a2 w2 a3 w3, Fig1 tf n w1 a1 f0 a2 w2 ∧ Fig1 tf n w2 a2 f1 a3 w3 ∧ Semi tf n w3 a3 w' a') ∨ ((so = 3 ∨ so = 4) ∧ Semi tf n w1 a1 w' a') ∨ ((so = 1 ∨ so = 2) ∧ ∃ a2 w2, Fig1 tf n w1 a1 f0 a2 w2 ∧ Semi tf n w2 a2 w' a') ∨ (so = 6 ∧ ∃ a2 w2, Fig2 tf n w1 a1 f0 a2 w2 ∧ Semi tf n w2 a2 w' a'))
def OkS (so f0 f1 p r : Int) : Prop := r = 0 ∨ (r = 1 ∧ (so ≠ 0 ∨ p < 6) ∧ (so ≠ 1 ∨ (1 ≤ f0 ∧ f0 ≤ 3)) ∧ (so ≠ 2 ∨ f0 ≤ 6) ∧ (so ≠ 5 ∨ (f0 < p ∧ f1 < p ∧ f0 ≠ f1)))
theorem OkS_1 {so f0 f1 p r : Int} (h : OkS so f0 f1 p r) (hr : r ≠ 0) : OkS so f0 f1 p 1 := by
  unfold OkS at *
  omega
theorem OkS_f {so f0 f1 p : Int} (h : OkS so f0 f1 p 1) : (so ≠ 0 ∨ p < 6) ∧ (so ≠ 1 ∨ (1 ≤ f0 ∧ f0 ≤ 3)) ∧ (so ≠ 5 ∨ (f0 < p ∧ f1 < p)) := by
  unfold OkS at h
  omega
theorem OkS_eq {so f0 f1 g0 g1 p : Int} (h : OkS so g0 g1 p 1) (e0 : (so = 0 ∨ so = 1 ∨ so = 2 ∨ so = 5 ∨ so = 6) → f0 = g0) (e1 : (so = 0 ∨ so = 5) → f1 = g1) : OkS so f0 f1 p 1 := by
  by_cases c : so = 0 ∨ so = 1 ∨ so = 2 ∨ so = 5 ∨ so = 6
  · have e := e0 c
    subst e
    by_cases c1 : so = 0 ∨ so = 5
    · have e' := e1 c1
      subst e'
      exact h
    · unfold OkS at *
      omega
  · unfold OkS at *
    omega
theorem OneB_fn {tf : Nat → Int32} {n w a r a1 w1 s a2 w2 : Int} (h : OneB tf n w a r a1 w1) (k : OneB tf n w a s a2 w2) : r = s ∧ a1 = a2 ∧ w1 = w2 := by
  unfold OneB at h k
  omega
theorem OneK_fn {tf : Nat → Int32} {n w a r a1 w1 s a2 w2 : Int} (h : OneK tf n w a r a1 w1) (k : OneK tf n w a s a2 w2) : r = s ∧ a1 = a2 ∧ w1 = w2 := by
  unfold OneK at h k
  omega
theorem Fig1_fn {tf : Nat → Int32} {n w a r a1 w1 s a2 w2 : Int} (h : Fig1 tf n w a r a1 w1) (k : Fig1 tf n w a s a2 w2) : r = s ∧ a1 = a2 ∧ w1 = w2 := by
  unfold Fig1 at h k
  omega
theorem Fig2_fn {tf : Nat → Int32} {n w a r a1 w1 s a2 w2 : Int} (h : Fig2 tf n w a r a1 w1) (k : Fig2 tf n w a s a2 w2) : r = s ∧ a1 = a2 ∧ w1 = w2 := by
  unfold Fig2 at h k
  omega
theorem Semi_fn {tf : Nat → Int32} {n w a a1 w1 a2 w2 : Int} (h : Semi tf n w a w1 a1) (k : Semi tf n w a w2 a2) : w1 = w2 ∧ a1 = a2 := by
  unfold Semi at h k
  omega
/-- two readings of one STATEMENT: the same sort, place and end, and the same numbers as far as the sort has them -/
theorem Stm_fn {tf : Nat → Int32} {n w a so f0 f1 f2 w1 a1 s g0 g1 g2 w2 a2 : Int} (h : Stm tf n w a so f0 f1 f2 w1 a1) (k : Stm tf n w a s g0 g1 g2 w2 a2) : so = s ∧ w1 = w2 ∧ a1 = a2 ∧ ((so = 0 ∨ so = 1 ∨ so = 2 ∨ so = 5 ∨ so = 6) → f0 = g0) ∧ ((so = 0 ∨ so = 5) → f1 = g1) ∧ (so = 0 → f2 = g2) := by
  obtain ⟨b1, v1, hB, h⟩ := h
  obtain ⟨b2, v2, kB, k⟩ := k
  obtain ⟨rfl, rfl, rfl⟩ := OneB_fn hB kB
  rcases h with ⟨e, b3, v3, b4, v4, b5, v5, hK, hF, hG, hS⟩ | ⟨e, b3, v3, b4, v4, hF, hG, hS⟩ | ⟨e, hS⟩ | ⟨e, b3, v3, hF, hS⟩ | ⟨e, b3, v3, hF, hS⟩ <;> rcases k with ⟨e', c3, x3, c4, x4, c5, x5, kK, kF, kG, kS⟩ | ⟨e', c3, x3, c4, x4, kF, kG, kS⟩ | ⟨e', kS⟩ | ⟨e', c3, x3, kF, kS⟩ | ⟨e', c3, x3, kF, kS⟩ <;> try omega
  · obtain ⟨rfl, rfl, rfl⟩ := OneK_fn hK kK
    obtain ⟨rfl, rfl, rfl⟩ := Fig1_fn hF kF
    obtain ⟨rfl, rfl, rfl⟩ := Fig1_fn hG kG
    obtain ⟨rfl, rfl⟩ := Semi_fn hS kS
    exact ⟨rfl, rfl, rfl, fun _ => rfl, fun _ => rfl, fun _ => rfl⟩
  · obtain ⟨rfl, rfl, rfl⟩ := Fig1_fn hF kF
    obtain ⟨rfl, rfl, rfl⟩ := Fig1_fn hG kG
    obtain ⟨rfl, rfl⟩ := Semi_fn hS kS
    exact ⟨rfl, rfl, rfl, fun _ => rfl, fun _ => rfl, fun h => by omega⟩
  · obtain ⟨rfl, rfl⟩ := Semi_fn hS kS
    exact ⟨rfl, rfl, rfl, fun h => by omega, fun h => by omega, fun h => by omega⟩
  · obtain ⟨rfl, rfl, rfl⟩ := Fig1_fn hF kF
    obtain ⟨rfl, rfl⟩ := Semi_fn hS kS
    exact ⟨rfl, rfl, rfl, fun _ => rfl, fun h => by omega, fun h => by omega⟩
  · obtain ⟨rfl, rfl, rfl⟩ := Fig2_fn hF kF
    obtain ⟨rfl, rfl⟩ := Semi_fn hS kS
    exact ⟨rfl, rfl, rfl, fun _ => rfl, fun h => by omega, fun h => by omega⟩
theorem Stm_or {tf : Nat → Int32} {n w a so f0 f1 f2 w' a' : Int} (h : Stm tf n w a so f0 f1 f2 w' a') : (w' ≠ 1 ∨ (w = 1 ∧ a < a' ∧ a' ≤ n)) ∧ (so ≠ 5 ∨ (0 ≤ f0 ∧ 0 ≤ f1)) := by
  obtain ⟨b1, v1, hB, h⟩ := h
  rcases h with ⟨e, b3, v3, b4, v4, b5, v5, hK, hF, hG, hS⟩ | ⟨e, b3, v3, b4, v4, hF, hG, hS⟩ | ⟨e, hS⟩ | ⟨e, b3, v3, hF, hS⟩ | ⟨e, b3, v3, hF, hS⟩
  · unfold OneB at hB
    unfold OneK at hK
    unfold Fig1 at hF hG
    unfold Semi at hS
    omega
  · unfold OneB at hB
    unfold Fig1 at hF hG
    unfold Semi at hS
    omega
  · unfold OneB at hB
    unfold Semi at hS
    omega
  · unfold OneB at hB
    unfold Fig1 at hF
    unfold Semi at hS
    omega
  · unfold OneB at hB
    unfold Fig2 at hF
    unfold Semi at hS
    omega
/-- from a to the end by at most so many well STATEMENTS -/
def Gd (tf : Nat → Int32) (n : Int) : Nat → Int → Prop
  | 0, a => n ≤ a
  | k + 1, a => n ≤ a ∨ ∃ so f0 f1 f2 a', Stm tf n 1 a so f0 f1 f2 1 a' ∧ a < a' ∧ Gd tf n k a'
/-- the same, each as it must be with p PUPILS ahead of the first -/
def Vd (tf : Nat → Int32) (n : Int) : Nat → Int → Int → Prop
  | 0, a, _ => n ≤ a
  | k + 1, a, p => n ≤ a ∨ ∃ so f0 f1 f2 a' p', Stm tf n 1 a so f0 f1 f2 1 a' ∧ a < a' ∧ OkS so f0 f1 p 1 ∧ ((so = 0 ∧ p' = p + 1) ∨ (so ≠ 0 ∧ p' = p)) ∧ Vd tf n k a' p'
theorem Gd_step {tf : Nat → Int32} {n w a so f0 f1 f2 w' a' : Int} (H : ∃ j, ∀ k, Gd tf n k a → Gd tf n (k + j) 0) (hS : Stm tf n w a so f0 f1 f2 w' a') (hw : w = 1) (hw' : w' = 1) : ∃ j, ∀ k, Gd tf n k a' → Gd tf n (k + j) 0 := by
  subst hw
  subst hw'
  obtain ⟨j, h⟩ := H
  have ha := Stm_or hS
  refine ⟨j + 1, fun k g => ?_⟩
  have := h (k + 1) (Or.inr ⟨_, _, _, _, _, hS, by omega, g⟩)
  rw [show k + (j + 1) = k + 1 + j by omega]
  exact this
theorem Gd_end {tf : Nat → Int32} {n w a so f0 f1 f2 w' a' : Int} (H : ∃ j, ∀ k, Gd tf n k a → Gd tf n (k + j) 0) (hS : Stm tf n w a so f0 f1 f2 w' a') (hw : w = 1) (hw' : w' = 1) (he : n ≤ a') : ∃ K, Gd tf n K 0 := by
  obtain ⟨j, h⟩ := Gd_step H hS hw hw'
  exact ⟨0 + j, h 0 he⟩
theorem Gd_next {tf : Nat → Int32} {n w a so f0 f1 f2 w' a' : Int} {K : Nat} (h : Gd tf n K a) (ha : a < n) (hS : Stm tf n w a so f0 f1 f2 w' a') (hw : w = 1) : ∃ k, K = k + 1 ∧ w' = 1 ∧ a < a' ∧ Gd tf n k a' := by
  subst hw
  cases K with
  | zero => exact absurd (show n ≤ a from h) (by omega)
  | succ k =>
    rcases (show n ≤ a ∨ ∃ so f0 f1 f2 a', Stm tf n 1 a so f0 f1 f2 1 a' ∧ a < a' ∧ Gd tf n k a' from h) with h | ⟨s, g0, g1, g2, b, hT, hb, hg⟩
    · omega
    · obtain ⟨-, e2, e3, -⟩ := Stm_fn hS hT
      subst e3
      exact ⟨k, rfl, e2, hb, hg⟩
theorem Vd_step {tf : Nat → Int32} {n w a so f0 f1 f2 w' a' p p' p0 : Int} (H : ∃ j, ∀ k, Vd tf n k a p → Vd tf n (k + j) 0 p0) (hS : Stm tf n w a so f0 f1 f2 w' a') (hw : w = 1) (hw' : w' = 1) (hO : OkS so f0 f1 p 1) (hp : (so = 0 ∧ p' = p + 1) ∨ (so ≠ 0 ∧ p' = p)) : ∃ j, ∀ k, Vd tf n k a' p' → Vd tf n (k + j) 0 p0 := by
  subst hw
  subst hw'
  obtain ⟨j, h⟩ := H
  have ha := Stm_or hS
  refine ⟨j + 1, fun k g => ?_⟩
  have := h (k + 1) (Or.inr ⟨_, _, _, _, _, _, hS, by omega, hO, hp, g⟩)
  rw [show k + (j + 1) = k + 1 + j by omega]
  exact this
theorem Vd_end {tf : Nat → Int32} {n a p p0 : Int} (H : ∃ j, ∀ k, Vd tf n k a p → Vd tf n (k + j) 0 p0) (he : n ≤ a) : ∃ K, Vd tf n K 0 p0 := by
  obtain ⟨j, h⟩ := H
  exact ⟨0 + j, h 0 he⟩
theorem Vd_next {tf : Nat → Int32} {n w a so f0 f1 f2 w' a' p : Int} {K : Nat} (h : Vd tf n K a p) (ha : a < n) (hS : Stm tf n w a so f0 f1 f2 w' a') (hw : w = 1) : ∃ k p', K = k + 1 ∧ w' = 1 ∧ a < a' ∧ OkS so f0 f1 p 1 ∧ ((so = 0 ∧ p' = p + 1) ∨ (so ≠ 0 ∧ p' = p)) ∧ Vd tf n k a' p' := by
  subst hw
  cases K with
  | zero => exact absurd (show n ≤ a from h) (by omega)
  | succ k =>
    rcases (show n ≤ a ∨ ∃ so f0 f1 f2 a' p', Stm tf n 1 a so f0 f1 f2 1 a' ∧ a < a' ∧ OkS so f0 f1 p 1 ∧ ((so = 0 ∧ p' = p + 1) ∨ (so ≠ 0 ∧ p' = p)) ∧ Vd tf n k a' p' from h) with h | ⟨s, g0, g1, g2, b, p', hT, hb, hO, hp, hg⟩
    · omega
    · obtain ⟨e1, e2, e3, e4, e5, -⟩ := Stm_fn hS hT
      subst e1
      subst e3
      exact ⟨k, p', rfl, e2, hb, OkS_eq hO e4 e5, hp, hg⟩
