/-! LAYER B: giveOut, a chain holds if its spans have room -/
theorem i32_sub {a b : Int32} (h : -100000 ≤ a.toInt ∧ a.toInt ≤ 100000) (g : -100000 ≤ b.toInt ∧ b.toInt ≤ 100000) : (a - b).toInt = a.toInt - b.toInt := by
  rw [Int32.toInt_sub, Int.bmod_eq_of_le (by omega) (by omega)]
theorem i32_add {a b : Int32} (h : -100000 ≤ a.toInt ∧ a.toInt ≤ 100000) (g : -100000 ≤ b.toInt ∧ b.toInt ≤ 100000) : (a + b).toInt = a.toInt + b.toInt := by
  rw [Int32.toInt_add, Int.bmod_eq_of_le (by omega) (by omega)]
theorem hold_eq {gap sp le gr : Int32} (h1 : -6006 ≤ gap.toInt ∧ gap.toInt ≤ 6006) (h2 : 0 ≤ sp.toInt ∧ sp.toInt ≤ 594) (h3 : -9999 ≤ le.toInt ∧ le.toInt ≤ 9999) (h4 : -9999 ≤ gr.toInt ∧ gr.toInt ≤ 9999) : (decide (le ≤ gap - sp) && decide (gap + sp ≤ gr)) = decide (sp.toInt ≤ (if gr - gap < gap - le then gr - gap else gap - le).toInt) := by
  have e1 := i32_sub (a := gap) (b := sp) (by omega) (by omega)
  have e2 := i32_add (a := gap) (b := sp) (by omega) (by omega)
  have e3 := i32_sub (a := gr) (b := gap) (by omega) (by omega)
  have e4 := i32_sub (a := gap) (b := le) (by omega) (by omega)
  rw [← Bool.decide_and]
  refine decide_eq_decide.mpr ?_
  rw [Int32.le_iff_toInt_le, Int32.le_iff_toInt_le, e1, e2]
  by_cases q : gr - gap < gap - le
  · rw [if_pos q, e3]
    rw [Int32.lt_iff_toInt_lt, e3, e4] at q
    omega
  · rw [if_neg q, e4]
    rw [Int32.lt_iff_toInt_lt, e3, e4] at q
    omega
theorem sum_nS {f : Nat → Int32} {h : Nat → Nat} : ∀ {n : Nat}, (∀ i, i < n → f i = nI (h i)) → sumS n f = nI (nS n h)
  | 0, _ => rfl
  | n + 1, e => by rw [sumS_s, sum_nS fun i hi => e i (by omega), e n (by omega), nI_ad, nS]
