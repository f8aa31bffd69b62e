/-! LAYER B: order -/
def rset (μ : ZM) (a : Nat) (g : Nat → Int32) : ZM := (fun b => if b = a then g else μ.1 b, μ.2)
theorem rs_eq (μ : ZM) (a : Nat) (g : Nat → Int32) : (rset μ a g).1 a = g := by simp [rset]
theorem rs_ne {μ : ZM} {a b : Nat} {g : Nat → Int32} (h : b ≠ a) : (rset μ a g).1 b = μ.1 b := by simp [rset, h]
theorem zs_rs (μ : ZM) (a k : Nat) (g : Nat → Int32) (x : Int32) : zset (rset μ a g) a k x = rset μ a (upd g k x) := by
  unfold zset
  refine Prod.ext (funext fun b => ?_) rfl
  by_cases e : b = a
  · subst e; simp [rset]
  · simp [rset, e]
theorem rs_self (μ : ZM) (a : Nat) : rset μ a (μ.1 a) = μ := by
  refine Prod.ext (funext fun b => ?_) rfl
  by_cases e : b = a
  · subst e; simp [rset]
  · simp [rset, e]
/-- the row f with the places from k + 1 to n as they are when all moved up by one -/
def shf (f : Nat → Int32) (k n : Nat) : Nat → Int32 := fun j => if k < j ∧ j ≤ n then f (j - 1) else f j
theorem shf_n (f : Nat → Int32) (n : Nat) : shf f n n = f := by
  funext j
  unfold shf
  rw [if_neg (by omega)]
theorem shf_s (f : Nat → Int32) {k n : Nat} (h0 : 0 < k) (hk : k ≤ n) : upd (shf f k n) k (f (k - 1)) = shf f (k - 1) n := by
  funext j
  unfold shf upd
  by_cases e : j = k
  · subst e
    rw [if_pos rfl, if_pos (by omega)]
  · rw [if_neg e]
    by_cases h : k < j ∧ j ≤ n
    · rw [if_pos h, if_pos (by omega)]
    · rw [if_neg h, if_neg (by omega)]
theorem rtu_ins {n k : Nat} {f day : Nat → Int32} {q : Nat → Nat} {dy : Int32} (hn : n < 6) (hq : ∀ i, i < n → f i = nI (q i) ∧ q i < n) (hs : ∀ i j, i < j → j < n → (day (q i)).toInt < (day (q j)).toInt ∨ (day (q i)).toInt = (day (q j)).toInt ∧ q i < q j)
    (hk : k ≤ n) (h1 : ∀ j, k ≤ j → j < n → dy < day (q j)) (h2 : 0 < k → ¬ dy < day (q (k - 1))) : RTu (nI (n + 1)) (upd (shf f k n) k (nI n)) (upd day n dy) := by
  refine ⟨fun j => if j < k then q j else if j = k then n else q (j - 1), ?_, ?_⟩
  · rw [nI_clamp (by omega)]
    intro i hi
    by_cases e : i = k
    · subst e
      rw [zu_eq]
      simp
    · rw [zu_ne e]
      unfold shf
      by_cases h : i < k
      · simp only [h, if_true]
        rw [if_neg (by omega)]
        have := hq i (by omega)
        exact ⟨this.1, by omega⟩
      · simp only [h, e, if_false]
        rw [if_pos (by omega)]
        have := hq (i - 1) (by omega)
        exact ⟨this.1, by omega⟩
  · rw [nI_clamp (by omega)]
    intro i j hij hj
    have hle : ∀ i, i < k → (day (q i)).toInt ≤ dy.toInt := by
      intro i hi
      have h3 := h2 (by omega)
      rw [Int32.lt_iff_toInt_lt] at h3
      by_cases e : i = k - 1
      · subst e; omega
      · have := hs i (k - 1) (by omega) (by omega); omega
    have hlt : ∀ j, k ≤ j → j < n → dy.toInt < (day (q j)).toInt := fun j a b => Int32.lt_iff_toInt_lt.mp (h1 j a b)
    have hd : ∀ i, i < n → upd day n dy (q i) = day (q i) := fun i hi => zu_ne (by have := (hq i hi).2; omega)
    by_cases hik : i < k
    · simp only [hik, if_true]
      rw [hd i (by omega)]
      by_cases hjk : j < k
      · simp only [hjk, if_true]
        rw [hd j (by omega)]
        exact hs i j hij (by omega)
      · simp only [hjk, if_false]
        by_cases e : j = k
        · simp only [e, if_true]
          rw [zu_eq]
          have := hle i hik
          have := (hq i (by omega)).2
          omega
        · simp only [e, if_false]
          rw [hd (j - 1) (by omega)]
          exact hs i (j - 1) (by omega) (by omega)
    · have hjk : ¬ j < k := by omega
      have hje : ¬ j = k := by omega
      simp only [hik, hjk, hje, if_false]
      rw [hd (j - 1) (by omega)]
      by_cases e : i = k
      · simp only [e, if_true]
        rw [zu_eq]
        exact Or.inl (hlt (j - 1) (by omega) (by omega))
      · simp only [e, if_false]
        rw [hd (i - 1) (by omega)]
        exact hs (i - 1) (j - 1) (by omega) (by omega)
section KY
variable {F : ZFt} {d : Nat} {μ ν : ZM} {P : Option Value → ZM → Prop}
theorem nI_m1 {k : Nat} (h : 0 < k) : nI k - 1 = nI (k - 1) := by
  have := nI_pred (k - 1)
  rwa [show k - 1 + 1 = k by omega] at this
theorem nI_p1 {k : Nat} (h : 0 < k) : nI k + -1 = nI (k - 1) := by rw [← Int32.sub_eq_add_neg, nI_m1 h]
theorem k46 {n k0 : Nat} {q : Nat → Nat} {p dy : Int32} (hfo : Ffo F) (hn : n < 6) (hx : μ.1 153 0 = nI n) (hq : ∀ i, i < n → μ.1 156 i = nI (q i) ∧ q i < n) (hk0 : k0 ≤ n) (h1 : ∀ j, k0 ≤ j → j < n → dy < μ.1 155 (q j)) (h2 : 0 < k0 → ¬ dy < μ.1 155 (q (k0 - 1)))
    (h : P (some (.int (nI n))) (zset (rset (zset (zset μ 154 n p) 155 n dy) 156 (upd (shf (μ.1 156) k0 n) k0 (nI n))) 153 0 (nI (n + 1)))) : KK Zx F (d + 1) 46 [.ref 153, .int p, .int dy] μ P := by
  obtain ⟨μ1, hμ1⟩ : ∃ μ1, μ1 = zset (zset μ 154 n p) 155 n dy := ⟨_, rfl⟩
  have e153 : μ1.1 153 0 = nI n := by rw [hμ1, zs_ne (by omega), zs_ne (by omega)]; exact hx
  have e156 : μ1.1 156 = μ.1 156 := by rw [hμ1, zs_ne (by omega), zs_ne (by omega)]
  have e155 : ∀ j, j < n → μ1.1 155 (q j) = μ.1 155 (q j) := fun j hj => by rw [hμ1, zs_eq, zu_ne (by have := (hq j hj).2; omega), zs_ne (by omega)]
  rw [← hμ1] at h
  refine KK_in bd_46 rfl (Nat.le_of_ble_eq_true rfl) ?_; simp (disch := first | omega | (simp (disch := omega) only [forall_eq', Value.category, or_true, true_or, Option.isSome_some, Option.getD_some, true_and, and_true, and_self, forall_const, reduceCtorEq, Bool.false_eq_true, ite_true, ite_false, reduceIte, Nat.reduceLT, Nat.reduceLeDiff, Nat.reduceEqDiff, Nat.reduceAdd, Nat.reduceMul, decide_true, decide_false, Bool.true_and, Bool.and_true, Bool.false_and, Bool.and_false, Bool.or_false, Bool.false_or, not_true_eq_false, not_false_eq_true, Classical.not_not, false_implies, implies_true, decide_eq_true_eq, decide_eq_false_iff_not, Bool.not_eq_true, Bool.not_eq_false, Bool.not_eq_eq_eq_not, Bool.and_eq_true, Bool.or_eq_true, Bool.not_true, Bool.not_false, exists_eq_left, Option.some.injEq, Value.int.injEq, Value.long.injEq, Value.ref.injEq, zofN, znr0, zvpN, nI_clamp, nI_ltI, nI_leI, nI_eq, nI_a1, zN_lt, zN_le, zN_gt, zN_ge, zN_eq, zN_m1, Nat.zero_le, zLE, zi_eq0, zi01b, zi01c, zlast, hx, zs_ne, ← hμ1])) only [bd_46, sSeq, sIf, sSkip, sDecI, sDecL, sDecR, sSetI, sSetL, sInc, sRetI, sRetZ, sRetL, sRetR, sRetV, sScope, sPut, sPutL, sUpd, sSt, sStL, sStU, sStUL, sCpy, sCpyL, sCS, sCV, sSw, zsw, sBrk, xP, xCS, xCV, xNz, xI, xAnd, xOr, xNot, xT, xB, xInc, xPre, xIncL, xEq, eK, eV, eW, eR, eB, eU, eD, eT, eI, eAnd, eOr, eNot, eF, eFL, eFR, eA, eAL, eAR, eN, eCS, eCV, aN, aI, aL, aR, zen, zli, zlj, zlr, zob, rdI, rdL, rdR, zfk, List.cons_append, List.nil_append, List.set_cons_zero, List.set_cons_succ, List.take_succ_cons, List.take_zero, List.length_cons, List.length_nil, List.getElem?_cons_zero, List.getElem?_cons_succ, forall_eq', Value.category, or_true, true_or, Option.isSome_some, Option.getD_some, true_and, and_true, and_self, forall_const, reduceCtorEq, Bool.false_eq_true, ite_true, ite_false, reduceIte, Nat.reduceLT, Nat.reduceLeDiff, Nat.reduceEqDiff, Nat.reduceAdd, Nat.reduceMul, decide_true, decide_false, Bool.true_and, Bool.and_true, Bool.false_and, Bool.and_false, Bool.or_false, Bool.false_or, not_true_eq_false, not_false_eq_true, Classical.not_not, false_implies, implies_true, decide_eq_true_eq, decide_eq_false_iff_not, Bool.not_eq_true, Bool.not_eq_false, Bool.not_eq_eq_eq_not, Bool.and_eq_true, Bool.or_eq_true, Bool.not_true, Bool.not_false, exists_eq_left, Option.some.injEq, Value.int.injEq, Value.long.injEq, Value.ref.injEq, zFx0, zFx1, zFx2, zFx3, zFx4, zFx5, zFx6, zFx7, zFx8, zFx9, zFx10, zFx11, zFx12, zFx13, zFx14, zFm0, zFm1, zFm2, zFm3, zFm4, zofN, znr0, zvpN, nI_clamp, nI_ltI, nI_leI, nI_eq, nI_a1, zN_lt, zN_le, zN_gt, zN_ge, zN_eq, zN_m1, Nat.zero_le, zLE, zi_eq0, zi01b, zi01c, zlast, hfo.f76, hfo.f77, hfo.f217, hfo.f187, hfo.f43, hfo.f42, hfo.f44, hfo.f186, hfo.f188, hfo.f35, hfo.f36, hfo.f37, hfo.f178, hfo.f180, hfo.f1, hfo.f2, hfo.f3, hfo.f4, hfo.f5, hfo.f153, hfo.f154, hfo.f155, hfo.f156, hfo.f157, hfo.f164, hfo.f165, hfo.f166, hfo.f81, hfo.f84, hfo.f85, hfo.f86, hfo.f87, hfo.f137, hfo.f175, hfo.f174, hfo.f191, hfo.f11, hfo.f12, hfo.f13, hfo.f14, hfo.f15, hfo.f16, hfo.f17, hfo.f80, hfo.f138, hfo.f141, hfo.f143, hfo.f145, hfo.f129, hfo.f130, hfo.f132, hfo.f135, hfo.f136, k129, k130, k132, k135, k11, k12, zset_self, k136 hfo.a, k143 hfo.dr, k174 hfo.dr, k191 hfo.dr, hx, zs_ne, ← hμ1]
  refine ⟨fun z => absurd z (by omega), fun _ => ⟨hn, hn, ?_⟩⟩
  have es : μ1 = rset μ1 156 (shf (μ.1 156) n n) := by rw [shf_n, ← e156, rs_self]
  refine ⟨fun k σ => σ = ([.ref 153, .int p, .int dy, .int (nI k), .int (nI k)], rset μ1 156 (shf (μ.1 156) k n)) ∧ k ≤ n ∧ ∀ j, k ≤ j → j < n → dy < μ.1 155 (q j), n, ⟨by rw [← es], Nat.le_refl n, fun j a b => absurd a (by omega)⟩, ?_⟩
  rintro k σ ⟨rfl, hk, hall⟩
  have hfin : (k = 0 ∨ ¬ dy < μ.1 155 (q (k - 1))) → k = k0 := fun hz => by
    rcases Nat.lt_trichotomy k k0 with a | a | a
    · exact absurd (hall (k0 - 1) (by omega) (by omega)) (h2 (by omega))
    · exact a
    · rcases hz with z | z
      · omega
      · exact absurd (h1 (k - 1) (by omega) (by omega)) z
  have r153 : ∀ g, (rset μ1 156 g).1 153 0 = nI n := fun g => by rw [rs_ne (by omega)]; exact e153
  have rz : ∀ g, (zset (rset μ1 156 g) 156 k (nI n)) = rset μ1 156 (upd g k (nI n)) := fun g => zs_rs _ _ _ _ _
  by_cases hk1 : 0 < k
  · have e1 := nI_m1 hk1
    have e2 := nI_p1 hk1
    have et : shf (μ.1 156) k n (k - 1) = nI (q (k - 1)) := by
      unfold shf
      rw [if_neg (by omega)]
      exact (hq (k - 1) (by omega)).1
    have hq6 := (hq (k - 1) (by omega)).2
    have ed := e155 (k - 1) (by omega)
    by_cases hc : dy < μ.1 155 (q (k - 1))
    · have e3 : zset (rset μ1 156 (shf (μ.1 156) k n)) 156 k (nI (q (k - 1))) = rset μ1 156 (shf (μ.1 156) (k - 1) n) := by
        rw [zs_rs, ← shf_s _ hk1 hk, (hq (k - 1) (by omega)).1]
      simp (disch := first | omega | (simp (disch := omega) only [forall_eq', Value.category, or_true, true_or, Option.isSome_some, Option.getD_some, true_and, and_true, and_self, forall_const, reduceCtorEq, Bool.false_eq_true, ite_true, ite_false, reduceIte, Nat.reduceLT, Nat.reduceLeDiff, Nat.reduceEqDiff, Nat.reduceAdd, Nat.reduceMul, decide_true, decide_false, Bool.true_and, Bool.and_true, Bool.false_and, Bool.and_false, Bool.or_false, Bool.false_or, not_true_eq_false, not_false_eq_true, Classical.not_not, false_implies, implies_true, decide_eq_true_eq, decide_eq_false_iff_not, Bool.not_eq_true, Bool.not_eq_false, Bool.not_eq_eq_eq_not, Bool.and_eq_true, Bool.or_eq_true, Bool.not_true, Bool.not_false, exists_eq_left, Option.some.injEq, Value.int.injEq, Value.long.injEq, Value.ref.injEq, zofN, znr0, zvpN, nI_clamp, nI_ltI, nI_leI, nI_eq, nI_a1, zN_lt, zN_le, zN_gt, zN_ge, zN_eq, zN_m1, Nat.zero_le, zLE, zi_eq0, zi01b, zi01c, zlast, e1, e2, et, ed, hc, rs_eq, rs_ne, e3, r153])) only [sSeq, sIf, sSkip, sDecI, sDecL, sDecR, sSetI, sSetL, sInc, sRetI, sRetZ, sRetL, sRetR, sRetV, sScope, sPut, sPutL, sUpd, sSt, sStL, sStU, sStUL, sCpy, sCpyL, sCS, sCV, sSw, zsw, sBrk, xP, xCS, xCV, xNz, xI, xAnd, xOr, xNot, xT, xB, xInc, xPre, xIncL, xEq, eK, eV, eW, eR, eB, eU, eD, eT, eI, eAnd, eOr, eNot, eF, eFL, eFR, eA, eAL, eAR, eN, eCS, eCV, aN, aI, aL, aR, zen, zli, zlj, zlr, zob, rdI, rdL, rdR, zfk, List.cons_append, List.nil_append, List.set_cons_zero, List.set_cons_succ, List.take_succ_cons, List.take_zero, List.length_cons, List.length_nil, List.getElem?_cons_zero, List.getElem?_cons_succ, forall_eq', Value.category, or_true, true_or, Option.isSome_some, Option.getD_some, true_and, and_true, and_self, forall_const, reduceCtorEq, Bool.false_eq_true, ite_true, ite_false, reduceIte, Nat.reduceLT, Nat.reduceLeDiff, Nat.reduceEqDiff, Nat.reduceAdd, Nat.reduceMul, decide_true, decide_false, Bool.true_and, Bool.and_true, Bool.false_and, Bool.and_false, Bool.or_false, Bool.false_or, not_true_eq_false, not_false_eq_true, Classical.not_not, false_implies, implies_true, decide_eq_true_eq, decide_eq_false_iff_not, Bool.not_eq_true, Bool.not_eq_false, Bool.not_eq_eq_eq_not, Bool.and_eq_true, Bool.or_eq_true, Bool.not_true, Bool.not_false, exists_eq_left, Option.some.injEq, Value.int.injEq, Value.long.injEq, Value.ref.injEq, zFx0, zFx1, zFx2, zFx3, zFx4, zFx5, zFx6, zFx7, zFx8, zFx9, zFx10, zFx11, zFx12, zFx13, zFx14, zFm0, zFm1, zFm2, zFm3, zFm4, zofN, znr0, zvpN, nI_clamp, nI_ltI, nI_leI, nI_eq, nI_a1, zN_lt, zN_le, zN_gt, zN_ge, zN_eq, zN_m1, Nat.zero_le, zLE, zi_eq0, zi01b, zi01c, zlast, hfo.f76, hfo.f77, hfo.f217, hfo.f187, hfo.f43, hfo.f42, hfo.f44, hfo.f186, hfo.f188, hfo.f35, hfo.f36, hfo.f37, hfo.f178, hfo.f180, hfo.f1, hfo.f2, hfo.f3, hfo.f4, hfo.f5, hfo.f153, hfo.f154, hfo.f155, hfo.f156, hfo.f157, hfo.f164, hfo.f165, hfo.f166, hfo.f81, hfo.f84, hfo.f85, hfo.f86, hfo.f87, hfo.f137, hfo.f175, hfo.f174, hfo.f191, hfo.f11, hfo.f12, hfo.f13, hfo.f14, hfo.f15, hfo.f16, hfo.f17, hfo.f80, hfo.f138, hfo.f141, hfo.f143, hfo.f145, hfo.f129, hfo.f130, hfo.f132, hfo.f135, hfo.f136, k129, k130, k132, k135, k11, k12, zset_self, k136 hfo.a, k143 hfo.dr, k174 hfo.dr, k191 hfo.dr, e1, e2, et, ed, hc, rs_eq, rs_ne, e3, r153]
      fail
    · have e3 := hfin (Or.inr hc)
      subst e3
      simp (disch := first | omega | (simp (disch := omega) only [forall_eq', Value.category, or_true, true_or, Option.isSome_some, Option.getD_some, true_and, and_true, and_self, forall_const, reduceCtorEq, Bool.false_eq_true, ite_true, ite_false, reduceIte, Nat.reduceLT, Nat.reduceLeDiff, Nat.reduceEqDiff, Nat.reduceAdd, Nat.reduceMul, decide_true, decide_false, Bool.true_and, Bool.and_true, Bool.false_and, Bool.and_false, Bool.or_false, Bool.false_or, not_true_eq_false, not_false_eq_true, Classical.not_not, false_implies, implies_true, decide_eq_true_eq, decide_eq_false_iff_not, Bool.not_eq_true, Bool.not_eq_false, Bool.not_eq_eq_eq_not, Bool.and_eq_true, Bool.or_eq_true, Bool.not_true, Bool.not_false, exists_eq_left, Option.some.injEq, Value.int.injEq, Value.long.injEq, Value.ref.injEq, zofN, znr0, zvpN, nI_clamp, nI_ltI, nI_leI, nI_eq, nI_a1, zN_lt, zN_le, zN_gt, zN_ge, zN_eq, zN_m1, Nat.zero_le, zLE, zi_eq0, zi01b, zi01c, zlast, e1, e2, et, ed, hc, rs_eq, rs_ne, r153, rz])) only [sSeq, sIf, sSkip, sDecI, sDecL, sDecR, sSetI, sSetL, sInc, sRetI, sRetZ, sRetL, sRetR, sRetV, sScope, sPut, sPutL, sUpd, sSt, sStL, sStU, sStUL, sCpy, sCpyL, sCS, sCV, sSw, zsw, sBrk, xP, xCS, xCV, xNz, xI, xAnd, xOr, xNot, xT, xB, xInc, xPre, xIncL, xEq, eK, eV, eW, eR, eB, eU, eD, eT, eI, eAnd, eOr, eNot, eF, eFL, eFR, eA, eAL, eAR, eN, eCS, eCV, aN, aI, aL, aR, zen, zli, zlj, zlr, zob, rdI, rdL, rdR, zfk, List.cons_append, List.nil_append, List.set_cons_zero, List.set_cons_succ, List.take_succ_cons, List.take_zero, List.length_cons, List.length_nil, List.getElem?_cons_zero, List.getElem?_cons_succ, forall_eq', Value.category, or_true, true_or, Option.isSome_some, Option.getD_some, true_and, and_true, and_self, forall_const, reduceCtorEq, Bool.false_eq_true, ite_true, ite_false, reduceIte, Nat.reduceLT, Nat.reduceLeDiff, Nat.reduceEqDiff, Nat.reduceAdd, Nat.reduceMul, decide_true, decide_false, Bool.true_and, Bool.and_true, Bool.false_and, Bool.and_false, Bool.or_false, Bool.false_or, not_true_eq_false, not_false_eq_true, Classical.not_not, false_implies, implies_true, decide_eq_true_eq, decide_eq_false_iff_not, Bool.not_eq_true, Bool.not_eq_false, Bool.not_eq_eq_eq_not, Bool.and_eq_true, Bool.or_eq_true, Bool.not_true, Bool.not_false, exists_eq_left, Option.some.injEq, Value.int.injEq, Value.long.injEq, Value.ref.injEq, zFx0, zFx1, zFx2, zFx3, zFx4, zFx5, zFx6, zFx7, zFx8, zFx9, zFx10, zFx11, zFx12, zFx13, zFx14, zFm0, zFm1, zFm2, zFm3, zFm4, zofN, znr0, zvpN, nI_clamp, nI_ltI, nI_leI, nI_eq, nI_a1, zN_lt, zN_le, zN_gt, zN_ge, zN_eq, zN_m1, Nat.zero_le, zLE, zi_eq0, zi01b, zi01c, zlast, hfo.f76, hfo.f77, hfo.f217, hfo.f187, hfo.f43, hfo.f42, hfo.f44, hfo.f186, hfo.f188, hfo.f35, hfo.f36, hfo.f37, hfo.f178, hfo.f180, hfo.f1, hfo.f2, hfo.f3, hfo.f4, hfo.f5, hfo.f153, hfo.f154, hfo.f155, hfo.f156, hfo.f157, hfo.f164, hfo.f165, hfo.f166, hfo.f81, hfo.f84, hfo.f85, hfo.f86, hfo.f87, hfo.f137, hfo.f175, hfo.f174, hfo.f191, hfo.f11, hfo.f12, hfo.f13, hfo.f14, hfo.f15, hfo.f16, hfo.f17, hfo.f80, hfo.f138, hfo.f141, hfo.f143, hfo.f145, hfo.f129, hfo.f130, hfo.f132, hfo.f135, hfo.f136, k129, k130, k132, k135, k11, k12, zset_self, k136 hfo.a, k143 hfo.dr, k174 hfo.dr, k191 hfo.dr, e1, e2, et, ed, hc, rs_eq, rs_ne, r153, rz]
      fail
  · have e3 := hfin (Or.inl (by omega))
    subst e3
    have e4 : k = 0 := by omega
    subst e4
    simp (disch := first | omega | (simp (disch := omega) only [forall_eq', Value.category, or_true, true_or, Option.isSome_some, Option.getD_some, true_and, and_true, and_self, forall_const, reduceCtorEq, Bool.false_eq_true, ite_true, ite_false, reduceIte, Nat.reduceLT, Nat.reduceLeDiff, Nat.reduceEqDiff, Nat.reduceAdd, Nat.reduceMul, decide_true, decide_false, Bool.true_and, Bool.and_true, Bool.false_and, Bool.and_false, Bool.or_false, Bool.false_or, not_true_eq_false, not_false_eq_true, Classical.not_not, false_implies, implies_true, decide_eq_true_eq, decide_eq_false_iff_not, Bool.not_eq_true, Bool.not_eq_false, Bool.not_eq_eq_eq_not, Bool.and_eq_true, Bool.or_eq_true, Bool.not_true, Bool.not_false, exists_eq_left, Option.some.injEq, Value.int.injEq, Value.long.injEq, Value.ref.injEq, zofN, znr0, zvpN, nI_clamp, nI_ltI, nI_leI, nI_eq, nI_a1, zN_lt, zN_le, zN_gt, zN_ge, zN_eq, zN_m1, Nat.zero_le, zLE, zi_eq0, zi01b, zi01c, zlast, rs_eq, rs_ne, r153, rz])) only [sSeq, sIf, sSkip, sDecI, sDecL, sDecR, sSetI, sSetL, sInc, sRetI, sRetZ, sRetL, sRetR, sRetV, sScope, sPut, sPutL, sUpd, sSt, sStL, sStU, sStUL, sCpy, sCpyL, sCS, sCV, sSw, zsw, sBrk, xP, xCS, xCV, xNz, xI, xAnd, xOr, xNot, xT, xB, xInc, xPre, xIncL, xEq, eK, eV, eW, eR, eB, eU, eD, eT, eI, eAnd, eOr, eNot, eF, eFL, eFR, eA, eAL, eAR, eN, eCS, eCV, aN, aI, aL, aR, zen, zli, zlj, zlr, zob, rdI, rdL, rdR, zfk, List.cons_append, List.nil_append, List.set_cons_zero, List.set_cons_succ, List.take_succ_cons, List.take_zero, List.length_cons, List.length_nil, List.getElem?_cons_zero, List.getElem?_cons_succ, forall_eq', Value.category, or_true, true_or, Option.isSome_some, Option.getD_some, true_and, and_true, and_self, forall_const, reduceCtorEq, Bool.false_eq_true, ite_true, ite_false, reduceIte, Nat.reduceLT, Nat.reduceLeDiff, Nat.reduceEqDiff, Nat.reduceAdd, Nat.reduceMul, decide_true, decide_false, Bool.true_and, Bool.and_true, Bool.false_and, Bool.and_false, Bool.or_false, Bool.false_or, not_true_eq_false, not_false_eq_true, Classical.not_not, false_implies, implies_true, decide_eq_true_eq, decide_eq_false_iff_not, Bool.not_eq_true, Bool.not_eq_false, Bool.not_eq_eq_eq_not, Bool.and_eq_true, Bool.or_eq_true, Bool.not_true, Bool.not_false, exists_eq_left, Option.some.injEq, Value.int.injEq, Value.long.injEq, Value.ref.injEq, zFx0, zFx1, zFx2, zFx3, zFx4, zFx5, zFx6, zFx7, zFx8, zFx9, zFx10, zFx11, zFx12, zFx13, zFx14, zFm0, zFm1, zFm2, zFm3, zFm4, zofN, znr0, zvpN, nI_clamp, nI_ltI, nI_leI, nI_eq, nI_a1, zN_lt, zN_le, zN_gt, zN_ge, zN_eq, zN_m1, Nat.zero_le, zLE, zi_eq0, zi01b, zi01c, zlast, hfo.f76, hfo.f77, hfo.f217, hfo.f187, hfo.f43, hfo.f42, hfo.f44, hfo.f186, hfo.f188, hfo.f35, hfo.f36, hfo.f37, hfo.f178, hfo.f180, hfo.f1, hfo.f2, hfo.f3, hfo.f4, hfo.f5, hfo.f153, hfo.f154, hfo.f155, hfo.f156, hfo.f157, hfo.f164, hfo.f165, hfo.f166, hfo.f81, hfo.f84, hfo.f85, hfo.f86, hfo.f87, hfo.f137, hfo.f175, hfo.f174, hfo.f191, hfo.f11, hfo.f12, hfo.f13, hfo.f14, hfo.f15, hfo.f16, hfo.f17, hfo.f80, hfo.f138, hfo.f141, hfo.f143, hfo.f145, hfo.f129, hfo.f130, hfo.f132, hfo.f135, hfo.f136, k129, k130, k132, k135, k11, k12, zset_self, k136 hfo.a, k143 hfo.dr, k174 hfo.dr, k191 hfo.dr, rs_eq, rs_ne, r153, rz]
    fail
end KY
