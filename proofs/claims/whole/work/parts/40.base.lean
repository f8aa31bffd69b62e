/-! LAYER B, base: small rules, and the calls of the smallest methods. @ .. @ of the sources are lists of names, filled by wip/whole/gen/mkB.py -/
theorem zi01 (b : Bool) : zi b = 0 ∨ zi b = 1 := by cases b <;> decide
theorem zi_eq0 (b : Bool) : (zi b = 0) = (b = false) := by cases b <;> decide
theorem zi_eq1 (b : Bool) : (zi b = 1) = (b = true) := by cases b <;> decide
theorem zst_1 (μ : ZM) (a k : Nat) (x : Int32) (b : Nat) : (zset μ a k x).1 b = if b = a then upd (μ.1 a) k x else μ.1 b := rfl
theorem zst_2 (μ : ZM) (a k : Nat) (x : Int32) : (zset μ a k x).2 = μ.2 := rfl
theorem zstL_1 (μ : ZM) (a k : Nat) (x : Int64) : (zsetL μ a k x).1 = μ.1 := rfl
theorem zstL_2 (μ : ZM) (a k : Nat) (x : Int64) (b : Nat) : (zsetL μ a k x).2 b = if b = a then vp_updL (μ.2 a) k x else μ.2 b := rfl
theorem zupd (f : Nat → Int32) (k : Nat) (x : Int32) (j : Nat) : upd f k x j = if j = k then x else f j := rfl
theorem zcl (a : Int32) : a.toNatClampNeg = a.toInt.toNat := rfl
theorem zvpN {j n : Nat} (h : j < 2 ^ 31) : vp_in (nI j) n = (j < n) := by
  apply propext
  unfold vp_in
  rw [nI_clamp h]
  have := nI_pos h
  constructor
  · intro q; omega
  · intro q z; rcases z with z | z
    · exact this z
    · omega
theorem zlt {a b : Int32} : (a < b) = (a.toInt < b.toInt) := propext Int32.lt_iff_toInt_lt
theorem zle {a b : Int32} : (a ≤ b) = (a.toInt ≤ b.toInt) := propext Int32.le_iff_toInt_le
theorem nI_a1 (i : Nat) : nI i + 1 = nI (i + 1) := (nI_succ i).symm
theorem zofN (n : Nat) : Int32.ofNat n = nI n := rfl
theorem znr0 (x : Int32) : znr 0 x = x := rfl
theorem zle1 {a b : Int32} (v : Int32) (hv : v.toInt + 1 = b.toInt) (h : a ≤ v) : a < b := Int32.lt_iff_toInt_lt.mpr (by have := Int32.le_iff_toInt_le.mp h; omega)
theorem zle2 {a b : Int32} (v : Int32) (hv : v.toInt + 1 = b.toInt) (h : a < b) : a ≤ v := Int32.le_iff_toInt_le.mpr (by have := Int32.lt_iff_toInt_lt.mp h; omega)
theorem zLE : (∀ a : Int32, (a ≤ 7) = (a < 8)) ∧ (∀ a : Int32, (a ≤ 6) = (a < 7)) ∧ (∀ a : Int32, (a ≤ 5) = (a < 6)) ∧ (∀ a : Int32, (a ≤ 3) = (a < 4)) ∧ (∀ a : Int32, (a ≤ 2) = (a < 3)) ∧ (∀ a : Int32, (a ≤ 1) = (a < 2)) ∧ (∀ a : Int32, (a ≤ 11) = (a < 12)) :=
  ⟨fun _ => propext ⟨zle1 7 (by decide), zle2 7 (by decide)⟩, fun _ => propext ⟨zle1 6 (by decide), zle2 6 (by decide)⟩, fun _ => propext ⟨zle1 5 (by decide), zle2 5 (by decide)⟩, fun _ => propext ⟨zle1 3 (by decide), zle2 3 (by decide)⟩, fun _ => propext ⟨zle1 2 (by decide), zle2 2 (by decide)⟩, fun _ => propext ⟨zle1 1 (by decide), zle2 1 (by decide)⟩, fun _ => propext ⟨zle1 11 (by decide), zle2 11 (by decide)⟩⟩
theorem zadd {a b : Int32} (h : -2147483648 ≤ a.toInt + b.toInt ∧ a.toInt + b.toInt < 2147483648) : (a + b).toInt = a.toInt + b.toInt := by
  rw [Int32.toInt_add]
  exact Int.bmod_eq_of_le (by omega) (by omega)
theorem zlast {a : Int32} {n : Nat} (hn : n < 1000) : (a ≤ nI n - 1) = (a < nI n) := by
  have h : (nI n - 1).toInt = n - 1 := by
    rw [Int32.sub_eq_add_neg, zadd (by rw [nI_toInt (by omega)]; have : (-1 : Int32).toInt = -1 := by decide
                                       omega), nI_toInt (by omega)]
    have : (-1 : Int32).toInt = -1 := by decide
    omega
  apply propext
  rw [Int32.le_iff_toInt_le, Int32.lt_iff_toInt_lt, h, nI_toInt (by omega)]
  omega
theorem zi01b (b : Bool) : b = false ∨ zi b = 1 := by cases b <;> decide
theorem zi01c (p : Prop) [Decidable p] : ¬ p ∨ zi (decide p) = 1 := by by_cases h : p <;> simp [h, zi]
section KB
variable {Z : List ZD} {F : ZFt} {d : Nat} {μ : ZM} {P : Option Value → ZM → Prop}
theorem k129 {a b : Int32} (h : P (some (.int (zi (decide (0 ≤ a) && decide (a < b))))) μ) : KK Z F (d + 1) 129 [.int a, .int b] μ P := by
  refine KK_in bd_129 rfl (Nat.le_of_ble_eq_true rfl) ?_
  simp only [bd_129, sSeq, sIf, sSkip, sDecI, sDecL, sDecR, sSetI, sSetL, sInc, sRetI, sRetZ, sRetL, sRetR, sRetV, sScope, sPut, sPutL, sUpd, sSt, sStL, sStU, sStUL, sCpy, sCpyL, sCS, sCV, sSw, zsw, sBrk, xP, xCS, xCV, xNz, xI, xAnd, xOr, xNot, xT, xB, xInc, xPre, xIncL, xEq, eK, eV, eW, eR, eB, eU, eD, eT, eI, eAnd, eOr, eNot, eF, eFL, eFR, eA, eAL, eAR, eN, eCS, eCV, aN, aI, aL, aR, zen, zli, zlj, zlr, zob, rdI, rdL, rdR, zfk, List.cons_append, List.nil_append, List.set_cons_zero, List.set_cons_succ, List.take_succ_cons, List.take_zero, List.length_cons, List.length_nil, List.getElem?_cons_zero, List.getElem?_cons_succ, forall_eq', Value.category, or_true, true_or, Option.isSome_some, Option.getD_some, true_and, and_true, and_self, forall_const, reduceCtorEq, Bool.false_eq_true, ite_true, ite_false, reduceIte, Nat.reduceLT, Nat.reduceLeDiff, Nat.reduceEqDiff, Nat.reduceAdd, Nat.reduceMul, decide_true, decide_false, Bool.true_and, Bool.and_true, Bool.false_and, Bool.and_false, Bool.or_false, Bool.false_or, not_true_eq_false, not_false_eq_true, Classical.not_not, false_implies, implies_true, decide_eq_true_eq, decide_eq_false_iff_not, Bool.not_eq_true, Bool.not_eq_false, Bool.not_eq_eq_eq_not, Bool.and_eq_true, Bool.or_eq_true, Bool.not_true, Bool.not_false, exists_eq_left, Option.some.injEq, Value.int.injEq, Value.long.injEq, Value.ref.injEq, zi01]
  exact h
theorem k130 {a b c : Int32} (h : P (some (.int (zi (decide (b ≤ a) && decide (a ≤ c))))) μ) : KK Z F (d + 1) 130 [.int a, .int b, .int c] μ P := by
  refine KK_in bd_130 rfl (Nat.le_of_ble_eq_true rfl) ?_
  simp only [bd_130, sSeq, sIf, sSkip, sDecI, sDecL, sDecR, sSetI, sSetL, sInc, sRetI, sRetZ, sRetL, sRetR, sRetV, sScope, sPut, sPutL, sUpd, sSt, sStL, sStU, sStUL, sCpy, sCpyL, sCS, sCV, sSw, zsw, sBrk, xP, xCS, xCV, xNz, xI, xAnd, xOr, xNot, xT, xB, xInc, xPre, xIncL, xEq, eK, eV, eW, eR, eB, eU, eD, eT, eI, eAnd, eOr, eNot, eF, eFL, eFR, eA, eAL, eAR, eN, eCS, eCV, aN, aI, aL, aR, zen, zli, zlj, zlr, zob, rdI, rdL, rdR, zfk, List.cons_append, List.nil_append, List.set_cons_zero, List.set_cons_succ, List.take_succ_cons, List.take_zero, List.length_cons, List.length_nil, List.getElem?_cons_zero, List.getElem?_cons_succ, forall_eq', Value.category, or_true, true_or, Option.isSome_some, Option.getD_some, true_and, and_true, and_self, forall_const, reduceCtorEq, Bool.false_eq_true, ite_true, ite_false, reduceIte, Nat.reduceLT, Nat.reduceLeDiff, Nat.reduceEqDiff, Nat.reduceAdd, Nat.reduceMul, decide_true, decide_false, Bool.true_and, Bool.and_true, Bool.false_and, Bool.and_false, Bool.or_false, Bool.false_or, not_true_eq_false, not_false_eq_true, Classical.not_not, false_implies, implies_true, decide_eq_true_eq, decide_eq_false_iff_not, Bool.not_eq_true, Bool.not_eq_false, Bool.not_eq_eq_eq_not, Bool.and_eq_true, Bool.or_eq_true, Bool.not_true, Bool.not_false, exists_eq_left, Option.some.injEq, Value.int.injEq, Value.long.injEq, Value.ref.injEq, zi01]
  exact h
theorem k135 {a b c : Int32} (h : P (some (.int (zi (decide (b ≤ a) && decide (a ≤ c))))) μ) : KK Z F (d + 1) 135 [.int a, .int b, .int c] μ P := by
  refine KK_in bd_135 rfl (Nat.le_of_ble_eq_true rfl) ?_
  simp only [bd_135, sSeq, sIf, sSkip, sDecI, sDecL, sDecR, sSetI, sSetL, sInc, sRetI, sRetZ, sRetL, sRetR, sRetV, sScope, sPut, sPutL, sUpd, sSt, sStL, sStU, sStUL, sCpy, sCpyL, sCS, sCV, sSw, zsw, sBrk, xP, xCS, xCV, xNz, xI, xAnd, xOr, xNot, xT, xB, xInc, xPre, xIncL, xEq, eK, eV, eW, eR, eB, eU, eD, eT, eI, eAnd, eOr, eNot, eF, eFL, eFR, eA, eAL, eAR, eN, eCS, eCV, aN, aI, aL, aR, zen, zli, zlj, zlr, zob, rdI, rdL, rdR, zfk, List.cons_append, List.nil_append, List.set_cons_zero, List.set_cons_succ, List.take_succ_cons, List.take_zero, List.length_cons, List.length_nil, List.getElem?_cons_zero, List.getElem?_cons_succ, forall_eq', Value.category, or_true, true_or, Option.isSome_some, Option.getD_some, true_and, and_true, and_self, forall_const, reduceCtorEq, Bool.false_eq_true, ite_true, ite_false, reduceIte, Nat.reduceLT, Nat.reduceLeDiff, Nat.reduceEqDiff, Nat.reduceAdd, Nat.reduceMul, decide_true, decide_false, Bool.true_and, Bool.and_true, Bool.false_and, Bool.and_false, Bool.or_false, Bool.false_or, not_true_eq_false, not_false_eq_true, Classical.not_not, false_implies, implies_true, decide_eq_true_eq, decide_eq_false_iff_not, Bool.not_eq_true, Bool.not_eq_false, Bool.not_eq_eq_eq_not, Bool.and_eq_true, Bool.or_eq_true, Bool.not_true, Bool.not_false, exists_eq_left, Option.some.injEq, Value.int.injEq, Value.long.injEq, Value.ref.injEq, zi01]
  exact h
theorem k132 {a b : Int64} (h : P (some (.long (31 * a + b))) μ) : KK Z F (d + 1) 132 [.long a, .long b] μ P := by
  refine KK_in bd_132 rfl (Nat.le_of_ble_eq_true rfl) ?_
  simp only [bd_132, sSeq, sIf, sSkip, sDecI, sDecL, sDecR, sSetI, sSetL, sInc, sRetI, sRetZ, sRetL, sRetR, sRetV, sScope, sPut, sPutL, sUpd, sSt, sStL, sStU, sStUL, sCpy, sCpyL, sCS, sCV, sSw, zsw, sBrk, xP, xCS, xCV, xNz, xI, xAnd, xOr, xNot, xT, xB, xInc, xPre, xIncL, xEq, eK, eV, eW, eR, eB, eU, eD, eT, eI, eAnd, eOr, eNot, eF, eFL, eFR, eA, eAL, eAR, eN, eCS, eCV, aN, aI, aL, aR, zen, zli, zlj, zlr, zob, rdI, rdL, rdR, zfk, List.cons_append, List.nil_append, List.set_cons_zero, List.set_cons_succ, List.take_succ_cons, List.take_zero, List.length_cons, List.length_nil, List.getElem?_cons_zero, List.getElem?_cons_succ, forall_eq', Value.category, or_true, true_or, Option.isSome_some, Option.getD_some, true_and, and_true, and_self, forall_const, reduceCtorEq, Bool.false_eq_true, ite_true, ite_false, reduceIte, Nat.reduceLT, Nat.reduceLeDiff, Nat.reduceEqDiff, Nat.reduceAdd, Nat.reduceMul, decide_true, decide_false, Bool.true_and, Bool.and_true, Bool.false_and, Bool.and_false, Bool.or_false, Bool.false_or, not_true_eq_false, not_false_eq_true, Classical.not_not, false_implies, implies_true, decide_eq_true_eq, decide_eq_false_iff_not, Bool.not_eq_true, Bool.not_eq_false, Bool.not_eq_eq_eq_not, Bool.and_eq_true, Bool.or_eq_true, Bool.not_true, Bool.not_false, exists_eq_left, Option.some.injEq, Value.int.injEq, Value.long.injEq, Value.ref.injEq]
  exact h
end KB
/-- what the oracle answers, the smallest ones -/
def Fa (F : ZFt) : Prop := (∀ a b μ, F 129 [.int a, .int b] μ = .int (zi (decide (0 ≤ a) && decide (a < b)))) ∧ (∀ a b c μ, F 130 [.int a, .int b, .int c] μ = .int (zi (decide (b ≤ a) && decide (a ≤ c)))) ∧ (∀ a b c μ, F 135 [.int a, .int b, .int c] μ = .int (zi (decide (b ≤ a) && decide (a ≤ c)))) ∧ (∀ a b μ, F 132 [.long a, .long b] μ = .long (31 * a + b)) ∧ (∀ a μ, F 136 [.int a] μ = .int (zi (decide (0 ≤ a) && decide (a < 8))))
theorem Fa.f129 {F : ZFt} (h : Fa F) : ∀ a b μ, F 129 [.int a, .int b] μ = .int (zi (decide (0 ≤ a) && decide (a < b))) := h.1
theorem Fa.f130 {F : ZFt} (h : Fa F) : ∀ a b c μ, F 130 [.int a, .int b, .int c] μ = .int (zi (decide (b ≤ a) && decide (a ≤ c))) := h.2.1
theorem Fa.f135 {F : ZFt} (h : Fa F) : ∀ a b c μ, F 135 [.int a, .int b, .int c] μ = .int (zi (decide (b ≤ a) && decide (a ≤ c))) := h.2.2.1
theorem Fa.f132 {F : ZFt} (h : Fa F) : ∀ a b μ, F 132 [.long a, .long b] μ = .long (31 * a + b) := h.2.2.2.1
theorem Fa.f136 {F : ZFt} (h : Fa F) : ∀ a μ, F 136 [.int a] μ = .int (zi (decide (0 ≤ a) && decide (a < 8))) := h.2.2.2.2
section KB2
variable {Z : List ZD} {F : ZFt} {d : Nat} {μ : ZM} {P : Option Value → ZM → Prop}
theorem k136 {a : Int32} (hF : Fa F) (h : P (some (.int (zi (decide (0 ≤ a) && decide (a < 8))))) μ) : KK Z F (d + 2) 136 [.int a] μ P := by
  refine KK_in bd_136 rfl (Nat.le_of_ble_eq_true rfl) ?_
  simp only [bd_136, sSeq, sIf, sSkip, sDecI, sDecL, sDecR, sSetI, sSetL, sInc, sRetI, sRetZ, sRetL, sRetR, sRetV, sScope, sPut, sPutL, sUpd, sSt, sStL, sStU, sStUL, sCpy, sCpyL, sCS, sCV, sSw, zsw, sBrk, xP, xCS, xCV, xNz, xI, xAnd, xOr, xNot, xT, xB, xInc, xPre, xIncL, xEq, eK, eV, eW, eR, eB, eU, eD, eT, eI, eAnd, eOr, eNot, eF, eFL, eFR, eA, eAL, eAR, eN, eCS, eCV, aN, aI, aL, aR, zen, zli, zlj, zlr, zob, rdI, rdL, rdR, zfk, List.cons_append, List.nil_append, List.set_cons_zero, List.set_cons_succ, List.take_succ_cons, List.take_zero, List.length_cons, List.length_nil, List.getElem?_cons_zero, List.getElem?_cons_succ, forall_eq', Value.category, or_true, true_or, Option.isSome_some, Option.getD_some, true_and, and_true, and_self, forall_const, reduceCtorEq, Bool.false_eq_true, ite_true, ite_false, reduceIte, Nat.reduceLT, Nat.reduceLeDiff, Nat.reduceEqDiff, Nat.reduceAdd, Nat.reduceMul, decide_true, decide_false, Bool.true_and, Bool.and_true, Bool.false_and, Bool.and_false, Bool.or_false, Bool.false_or, not_true_eq_false, not_false_eq_true, Classical.not_not, false_implies, implies_true, decide_eq_true_eq, decide_eq_false_iff_not, Bool.not_eq_true, Bool.not_eq_false, Bool.not_eq_eq_eq_not, Bool.and_eq_true, Bool.or_eq_true, Bool.not_true, Bool.not_false, exists_eq_left, Option.some.injEq, Value.int.injEq, Value.long.injEq, Value.ref.injEq, zi01, hF.1, hF.2.1, hF.2.2.1, k135, zLE]
  exact h
end KB2
