/-! LAYER B: put, the rest -/
theorem Fsm.dr {F : ZFt} (h : Fsm F) : Fdr F := h.1
def Fsm.f11 {F : ZFt} (h : Fsm F) := (h.1).f11
def Fsm.f12 {F : ZFt} (h : Fsm F) := (h.1).f12
def Fsm.f13 {F : ZFt} (h : Fsm F) := (h.1).f13
def Fsm.f14 {F : ZFt} (h : Fsm F) := (h.1).f14
def Fsm.f15 {F : ZFt} (h : Fsm F) := (h.1).f15
def Fsm.f16 {F : ZFt} (h : Fsm F) := (h.1).f16
def Fsm.f17 {F : ZFt} (h : Fsm F) := (h.1).f17
def Fsm.f80 {F : ZFt} (h : Fsm F) := (h.1).f80
def Fsm.f138 {F : ZFt} (h : Fsm F) := (h.1).f138
def Fsm.f141 {F : ZFt} (h : Fsm F) := (h.1).f141
def Fsm.f143 {F : ZFt} (h : Fsm F) := (h.1).f143
def Fsm.f145 {F : ZFt} (h : Fsm F) := (h.1).f145
theorem Fsm.a {F : ZFt} (h : Fsm F) : Fa F := h.1.a
def Fsm.f129 {F : ZFt} (h : Fsm F) := (h.1.a).f129
def Fsm.f130 {F : ZFt} (h : Fsm F) := (h.1.a).f130
def Fsm.f132 {F : ZFt} (h : Fsm F) := (h.1.a).f132
def Fsm.f135 {F : ZFt} (h : Fsm F) := (h.1.a).f135
def Fsm.f136 {F : ZFt} (h : Fsm F) := (h.1.a).f136
theorem Fma.sm {F : ZFt} (h : Fma F) : Fsm F := h.1
def Fma.f174 {F : ZFt} (h : Fma F) := (h.1).f174
def Fma.f191 {F : ZFt} (h : Fma F) := (h.1).f191
theorem Fma.dr {F : ZFt} (h : Fma F) : Fdr F := h.1.1
def Fma.f11 {F : ZFt} (h : Fma F) := (h.1.1).f11
def Fma.f12 {F : ZFt} (h : Fma F) := (h.1.1).f12
def Fma.f13 {F : ZFt} (h : Fma F) := (h.1.1).f13
def Fma.f14 {F : ZFt} (h : Fma F) := (h.1.1).f14
def Fma.f15 {F : ZFt} (h : Fma F) := (h.1.1).f15
def Fma.f16 {F : ZFt} (h : Fma F) := (h.1.1).f16
def Fma.f17 {F : ZFt} (h : Fma F) := (h.1.1).f17
def Fma.f80 {F : ZFt} (h : Fma F) := (h.1.1).f80
def Fma.f138 {F : ZFt} (h : Fma F) := (h.1.1).f138
def Fma.f141 {F : ZFt} (h : Fma F) := (h.1.1).f141
def Fma.f143 {F : ZFt} (h : Fma F) := (h.1.1).f143
def Fma.f145 {F : ZFt} (h : Fma F) := (h.1.1).f145
theorem Fma.a {F : ZFt} (h : Fma F) : Fa F := h.1.1.a
def Fma.f129 {F : ZFt} (h : Fma F) := (h.1.1.a).f129
def Fma.f130 {F : ZFt} (h : Fma F) := (h.1.1.a).f130
def Fma.f132 {F : ZFt} (h : Fma F) := (h.1.1.a).f132
def Fma.f135 {F : ZFt} (h : Fma F) := (h.1.1.a).f135
def Fma.f136 {F : ZFt} (h : Fma F) := (h.1.1.a).f136
theorem rma_in {n m p : Nat} {tp pl wi : Nat → Int32} {ho : Nat → Nat → Int32} (h : RMa (nI n) tp ho pl wi) (hn : n ≤ 24) (hm : m < 6) (hp : p < 8) : ho m p = wi (8 * m + p) ∧ (wi (8 * m + p) = -1 ∨ ∃ w, w < n ∧ wi (8 * m + p) = nI w ∧ tp w = nI p ∧ pl w = nI m) := by
  unfold RMa at h
  rw [nI_clamp (by omega)] at h
  exact h.1 m hm p hp
theorem upd_if (f : Nat → Int32) (k : Nat) (x : Int32) : upd f k x = fun j => if j = k then x else f j := rfl
section KO2
variable {F : ZFt} {d : Nat} {μ ν : ZM} {P : Option Value → ZM → Prop}
theorem st_put_move (hM : Fma F) (h : Rel μ ν) {n i p m : Nat} {μ1 ν1 : ZM} (hn : n ≤ 24) (hi : i < n) (hm : m < 6) (hp : p < 8) (hx : μ.1 61 0 = nI n) (hmn : ν.1 0 15 = nI n) (htp : ν.1 13 i = nI p) (htx : μ.1 62 i = nI p)
    (hc : (μ.1 132 i = -1 ∧ whereS 48 (ν.1 18) (nI i) = -1 ∧ μ1 = μ ∧ ν1 = ν ∧ ∀ q, q < 48 → ν.1 18 q ≠ nI i) ∨ ∃ m0, m0 < 6 ∧ m0 ≠ m ∧ μ.1 132 i = nI m0 ∧ whereS 48 (ν.1 18) (nI i) = nI (8 * m0 + p) ∧ μ1 = zset μ (126 + m0) p (-1) ∧ ν1 = zset ν 18 (8 * m0 + p) (-1) ∧ ν.1 18 (8 * m0 + p) = nI i ∧ ∀ q, q < 48 → ν.1 18 q = nI i → q = 8 * m0 + p) : St F (d + 12) 106 176 [.int (nI m), .int (nI i)] μ ν := by
  have hS := hM.1
  have hF := hS.1
  have hidx : 8 * nI m + nI p = nI (8 * m + p) := by
    show nI 8 * nI m + nI p = _
    rw [nI_mul, nI_add]
  have hrm : RMa (nI n) (ν.1 13) (rows 126 6 μ) (μ.1 132) (ν.1 18) := by
    obtain ⟨r1, r2, r3, r4, r5, r6, r7, r8, r9, r10, r11, r12, r13, r14, r15, r16, r17, r18, r19, r20, r21, r22, r23, r24, r25, r26, r27, r28, r29, r30, r31⟩ := h
    rw [hmn] at r14
    exact r14
  obtain ⟨hw1, hw2⟩ := rma_in hrm hn hm hp
  rw [ro_at hm] at hw1
  obtain ⟨wa, hwa⟩ : ∃ wa, wa = ν.1 18 (8 * m + p) := ⟨_, rfl⟩
  obtain ⟨μ3, h3, hμ3⟩ : ∃ μ3 : ZM, ((wa = -1 ∧ μ3 = zset μ1 (126 + m) p (nI i)) ∨ ∃ w, w < 24 ∧ wa = nI w ∧ μ3 = zset (zset μ1 (126 + m) p (nI i)) 132 w (-1)) ∧ (∀ b, b ≠ 126 + m → b ≠ 132 → μ3.1 b = μ1.1 b) ∧ μ3.1 (126 + m) = upd (μ1.1 (126 + m)) p (nI i) ∧ μ3.2 = μ1.2 ∧ ∀ s, s < 24 → μ3.1 132 s = if wa = nI s then -1 else μ1.1 132 s := by
    rcases hw2 with e | ⟨w, hw, e, _⟩
    · refine ⟨_, Or.inl ⟨by rw [hwa, e], rfl⟩, fun b h1 h2 => zs_ne h1, zs_eq _ _ _ _, rfl, fun s hs => ?_⟩
      rw [zs_ne (by omega), if_neg]
      rw [hwa, e]
      exact fun z => nI_nn (by omega) z.symm
    · refine ⟨_, Or.inr ⟨w, by omega, by rw [hwa, e], rfl⟩, fun b h1 h2 => by rw [zs_ne h2, zs_ne h1], by rw [zs_ne (by omega), zs_eq], rfl, fun s hs => ?_⟩
      rw [zs_eq, hwa, e]
      by_cases e2 : s = w
      · subst e2; rw [zu_eq, if_pos rfl]
      · rw [zu_ne e2, if_neg (fun z => e2 (nI_i (by omega) (by omega) z.symm)), zs_ne (by omega)]
  have hv1 : ν1.1 18 (8 * m + p) = wa := by
    rcases hc with ⟨_, _, _, rfl, _⟩ | ⟨m0, hm0, hne, _, _, _, rfl, _⟩
    · exact hwa.symm
    · rw [zs_eq, zu_ne (by omega)]; exact hwa.symm
  refine ⟨.int wa, zset μ3 132 i (nI m), zset ν1 18 (8 * m + p) (nI i), fun P hP => ?_, fun P hP => ?_, ?_⟩
  · have hk : KK Zx F (d + 11) 33 [.ref 124, .int (nI m), .int (nI i), .int (nI p)] μ (fun v μ' => ∃ x, v = some (.int x) ∧ P (some (.int x)) μ') := k33 hF (by omega) hm hp (hc.imp (fun h => ⟨h.1, h.2.2.1⟩) (fun ⟨m0, a, b, c, _, e, _⟩ => ⟨m0, a, b, c, e⟩)) (by rw [hwa, hw1]) h3 ⟨_, rfl, hP⟩
    refine KK_in bd_106 rfl (Nat.le_of_ble_eq_true rfl) ?_; simp (disch := first | omega | (simp (disch := omega) only [forall_eq', Value.category, or_true, true_or, Option.isSome_some, Option.getD_some, true_and, and_true, and_self, forall_const, reduceCtorEq, Bool.false_eq_true, ite_true, ite_false, reduceIte, Nat.reduceLT, Nat.reduceLeDiff, Nat.reduceEqDiff, Nat.reduceAdd, Nat.reduceMul, decide_true, decide_false, Bool.true_and, Bool.and_true, Bool.false_and, Bool.and_false, Bool.or_false, Bool.false_or, not_true_eq_false, not_false_eq_true, Classical.not_not, false_implies, implies_true, decide_eq_true_eq, decide_eq_false_iff_not, Bool.not_eq_true, Bool.not_eq_false, Bool.not_eq_eq_eq_not, Bool.and_eq_true, Bool.or_eq_true, Bool.not_true, Bool.not_false, exists_eq_left, Option.some.injEq, Value.int.injEq, Value.long.injEq, Value.ref.injEq, zofN, znr0, zvpN, nI_clamp, nI_ltI, nI_leI, nI_eq, nI_a1, zN_lt, zN_le, zN_gt, zN_ge, zN_eq, zN_m1, Nat.zero_le, zLE, zi_eq0, zi01b, zi01c, zlast])) only [bd_106, sSeq, sIf, sSkip, sDecI, sDecL, sDecR, sSetI, sSetL, sInc, sRetI, sRetZ, sRetL, sRetR, sRetV, sScope, sPut, sPutL, sUpd, sSt, sStL, sStU, sStUL, sCpy, sCpyL, sCS, sCV, sSw, zsw, sBrk, xP, xCS, xCV, xNz, xI, xAnd, xOr, xNot, xT, xB, xInc, xPre, xIncL, xEq, eK, eV, eW, eR, eB, eU, eD, eT, eI, eAnd, eOr, eNot, eF, eFL, eFR, eA, eAL, eAR, eN, eCS, eCV, aN, aI, aL, aR, zen, zli, zlj, zlr, zob, rdI, rdL, rdR, zfk, List.cons_append, List.nil_append, List.set_cons_zero, List.set_cons_succ, List.take_succ_cons, List.take_zero, List.length_cons, List.length_nil, List.getElem?_cons_zero, List.getElem?_cons_succ, forall_eq', Value.category, or_true, true_or, Option.isSome_some, Option.getD_some, true_and, and_true, and_self, forall_const, reduceCtorEq, Bool.false_eq_true, ite_true, ite_false, reduceIte, Nat.reduceLT, Nat.reduceLeDiff, Nat.reduceEqDiff, Nat.reduceAdd, Nat.reduceMul, decide_true, decide_false, Bool.true_and, Bool.and_true, Bool.false_and, Bool.and_false, Bool.or_false, Bool.false_or, not_true_eq_false, not_false_eq_true, Classical.not_not, false_implies, implies_true, decide_eq_true_eq, decide_eq_false_iff_not, Bool.not_eq_true, Bool.not_eq_false, Bool.not_eq_eq_eq_not, Bool.and_eq_true, Bool.or_eq_true, Bool.not_true, Bool.not_false, exists_eq_left, Option.some.injEq, Value.int.injEq, Value.long.injEq, Value.ref.injEq, zFx0, zFx1, zFx2, zFx3, zFx4, zFx5, zFx6, zFx7, zFx8, zFx9, zFx10, zFx11, zFx12, zFx13, zFx14, zFm0, zFm1, zFm2, zFm3, zFm4, zofN, znr0, zvpN, nI_clamp, nI_ltI, nI_leI, nI_eq, nI_a1, zN_lt, zN_le, zN_gt, zN_ge, zN_eq, zN_m1, Nat.zero_le, zLE, zi_eq0, zi01b, zi01c, zlast, hM.f137, hM.f175, hM.f174, hM.f191, hM.f11, hM.f12, hM.f13, hM.f14, hM.f15, hM.f16, hM.f17, hM.f80, hM.f138, hM.f141, hM.f143, hM.f145, hM.f129, hM.f130, hM.f132, hM.f135, hM.f136, k129, k130, k132, k135, k11, k12, zset_self, k136 hM.a, k143 hM.dr, k174 hM.dr, k191 hM.dr, hx, htx]
    grind
  · rcases hc with ⟨_, hwh, _, rfl, _⟩ | ⟨m0, hm0, hne, _, hwh, _, rfl, _⟩
    · have h175 : ∀ Q : Option Value → ZM → Prop, Q (some (.int (-1))) ν1 → KK Zm F (d + 11) 175 [.ref 0, .int (nI i)] ν1 Q := fun Q hQ => k175 (by rw [hwh]; exact hQ)
      refine KK_in bd_176 rfl (Nat.le_of_ble_eq_true rfl) ?_; simp (disch := first | omega | (simp (disch := omega) only [forall_eq', Value.category, or_true, true_or, Option.isSome_some, Option.getD_some, true_and, and_true, and_self, forall_const, reduceCtorEq, Bool.false_eq_true, ite_true, ite_false, reduceIte, Nat.reduceLT, Nat.reduceLeDiff, Nat.reduceEqDiff, Nat.reduceAdd, Nat.reduceMul, decide_true, decide_false, Bool.true_and, Bool.and_true, Bool.false_and, Bool.and_false, Bool.or_false, Bool.false_or, not_true_eq_false, not_false_eq_true, Classical.not_not, false_implies, implies_true, decide_eq_true_eq, decide_eq_false_iff_not, Bool.not_eq_true, Bool.not_eq_false, Bool.not_eq_eq_eq_not, Bool.and_eq_true, Bool.or_eq_true, Bool.not_true, Bool.not_false, exists_eq_left, Option.some.injEq, Value.int.injEq, Value.long.injEq, Value.ref.injEq, zofN, znr0, zvpN, nI_clamp, nI_ltI, nI_leI, nI_eq, nI_a1, zN_lt, zN_le, zN_gt, zN_ge, zN_eq, zN_m1, Nat.zero_le, zLE, zi_eq0, zi01b, zi01c, zlast])) only [bd_176, sSeq, sIf, sSkip, sDecI, sDecL, sDecR, sSetI, sSetL, sInc, sRetI, sRetZ, sRetL, sRetR, sRetV, sScope, sPut, sPutL, sUpd, sSt, sStL, sStU, sStUL, sCpy, sCpyL, sCS, sCV, sSw, zsw, sBrk, xP, xCS, xCV, xNz, xI, xAnd, xOr, xNot, xT, xB, xInc, xPre, xIncL, xEq, eK, eV, eW, eR, eB, eU, eD, eT, eI, eAnd, eOr, eNot, eF, eFL, eFR, eA, eAL, eAR, eN, eCS, eCV, aN, aI, aL, aR, zen, zli, zlj, zlr, zob, rdI, rdL, rdR, zfk, List.cons_append, List.nil_append, List.set_cons_zero, List.set_cons_succ, List.take_succ_cons, List.take_zero, List.length_cons, List.length_nil, List.getElem?_cons_zero, List.getElem?_cons_succ, forall_eq', Value.category, or_true, true_or, Option.isSome_some, Option.getD_some, true_and, and_true, and_self, forall_const, reduceCtorEq, Bool.false_eq_true, ite_true, ite_false, reduceIte, Nat.reduceLT, Nat.reduceLeDiff, Nat.reduceEqDiff, Nat.reduceAdd, Nat.reduceMul, decide_true, decide_false, Bool.true_and, Bool.and_true, Bool.false_and, Bool.and_false, Bool.or_false, Bool.false_or, not_true_eq_false, not_false_eq_true, Classical.not_not, false_implies, implies_true, decide_eq_true_eq, decide_eq_false_iff_not, Bool.not_eq_true, Bool.not_eq_false, Bool.not_eq_eq_eq_not, Bool.and_eq_true, Bool.or_eq_true, Bool.not_true, Bool.not_false, exists_eq_left, Option.some.injEq, Value.int.injEq, Value.long.injEq, Value.ref.injEq, zFx0, zFx1, zFx2, zFx3, zFx4, zFx5, zFx6, zFx7, zFx8, zFx9, zFx10, zFx11, zFx12, zFx13, zFx14, zFm0, zFm1, zFm2, zFm3, zFm4, zofN, znr0, zvpN, nI_clamp, nI_ltI, nI_leI, nI_eq, nI_a1, zN_lt, zN_le, zN_gt, zN_ge, zN_eq, zN_m1, Nat.zero_le, zLE, zi_eq0, zi01b, zi01c, zlast, hM.f137, hM.f175, hM.f174, hM.f191, hM.f11, hM.f12, hM.f13, hM.f14, hM.f15, hM.f16, hM.f17, hM.f80, hM.f138, hM.f141, hM.f143, hM.f145, hM.f129, hM.f130, hM.f132, hM.f135, hM.f136, k129, k130, k132, k135, k11, k12, zset_self, k136 hM.a, k143 hM.dr, k174 hM.dr, k191 hM.dr, k137 hF hn hmn, h175, hmn, hwh, htp, hidx, hv1]
      grind
    · have h175 : ∀ Q : Option Value → ZM → Prop, Q (some (.int (nI (8 * m0 + p)))) ν → KK Zm F (d + 11) 175 [.ref 0, .int (nI i)] ν Q := fun Q hQ => k175 (by rw [hwh]; exact hQ)
      refine KK_in bd_176 rfl (Nat.le_of_ble_eq_true rfl) ?_; simp (disch := first | omega | (simp (disch := omega) only [forall_eq', Value.category, or_true, true_or, Option.isSome_some, Option.getD_some, true_and, and_true, and_self, forall_const, reduceCtorEq, Bool.false_eq_true, ite_true, ite_false, reduceIte, Nat.reduceLT, Nat.reduceLeDiff, Nat.reduceEqDiff, Nat.reduceAdd, Nat.reduceMul, decide_true, decide_false, Bool.true_and, Bool.and_true, Bool.false_and, Bool.and_false, Bool.or_false, Bool.false_or, not_true_eq_false, not_false_eq_true, Classical.not_not, false_implies, implies_true, decide_eq_true_eq, decide_eq_false_iff_not, Bool.not_eq_true, Bool.not_eq_false, Bool.not_eq_eq_eq_not, Bool.and_eq_true, Bool.or_eq_true, Bool.not_true, Bool.not_false, exists_eq_left, Option.some.injEq, Value.int.injEq, Value.long.injEq, Value.ref.injEq, zofN, znr0, zvpN, nI_clamp, nI_ltI, nI_leI, nI_eq, nI_a1, zN_lt, zN_le, zN_gt, zN_ge, zN_eq, zN_m1, Nat.zero_le, zLE, zi_eq0, zi01b, zi01c, zlast])) only [bd_176, sSeq, sIf, sSkip, sDecI, sDecL, sDecR, sSetI, sSetL, sInc, sRetI, sRetZ, sRetL, sRetR, sRetV, sScope, sPut, sPutL, sUpd, sSt, sStL, sStU, sStUL, sCpy, sCpyL, sCS, sCV, sSw, zsw, sBrk, xP, xCS, xCV, xNz, xI, xAnd, xOr, xNot, xT, xB, xInc, xPre, xIncL, xEq, eK, eV, eW, eR, eB, eU, eD, eT, eI, eAnd, eOr, eNot, eF, eFL, eFR, eA, eAL, eAR, eN, eCS, eCV, aN, aI, aL, aR, zen, zli, zlj, zlr, zob, rdI, rdL, rdR, zfk, List.cons_append, List.nil_append, List.set_cons_zero, List.set_cons_succ, List.take_succ_cons, List.take_zero, List.length_cons, List.length_nil, List.getElem?_cons_zero, List.getElem?_cons_succ, forall_eq', Value.category, or_true, true_or, Option.isSome_some, Option.getD_some, true_and, and_true, and_self, forall_const, reduceCtorEq, Bool.false_eq_true, ite_true, ite_false, reduceIte, Nat.reduceLT, Nat.reduceLeDiff, Nat.reduceEqDiff, Nat.reduceAdd, Nat.reduceMul, decide_true, decide_false, Bool.true_and, Bool.and_true, Bool.false_and, Bool.and_false, Bool.or_false, Bool.false_or, not_true_eq_false, not_false_eq_true, Classical.not_not, false_implies, implies_true, decide_eq_true_eq, decide_eq_false_iff_not, Bool.not_eq_true, Bool.not_eq_false, Bool.not_eq_eq_eq_not, Bool.and_eq_true, Bool.or_eq_true, Bool.not_true, Bool.not_false, exists_eq_left, Option.some.injEq, Value.int.injEq, Value.long.injEq, Value.ref.injEq, zFx0, zFx1, zFx2, zFx3, zFx4, zFx5, zFx6, zFx7, zFx8, zFx9, zFx10, zFx11, zFx12, zFx13, zFx14, zFm0, zFm1, zFm2, zFm3, zFm4, zofN, znr0, zvpN, nI_clamp, nI_ltI, nI_leI, nI_eq, nI_a1, zN_lt, zN_le, zN_gt, zN_ge, zN_eq, zN_m1, Nat.zero_le, zLE, zi_eq0, zi01b, zi01c, zlast, hM.f137, hM.f175, hM.f174, hM.f191, hM.f11, hM.f12, hM.f13, hM.f14, hM.f15, hM.f16, hM.f17, hM.f80, hM.f138, hM.f141, hM.f143, hM.f145, hM.f129, hM.f130, hM.f132, hM.f135, hM.f136, k129, k130, k132, k135, k11, k12, zset_self, k136 hM.a, k143 hM.dr, k174 hM.dr, k191 hM.dr, k137 hF hn hmn, h175, hmn, hwh, htp, hidx, hv1, zs_ne]
      grind
  · have hR : RMa (nI n) (ν.1 13) (rows 126 6 (zset μ3 132 i (nI m))) ((zset μ3 132 i (nI m)).1 132) ((zset ν1 18 (8 * m + p) (nI i)).1 18) := by
      refine rma_put (t := i) (m := m) hrm hn hi hp hm htp (fun q hq => ?_) (fun m' hm' p' hp' => ?_) (fun s hs => ?_)
      · rw [zs_eq, upd_if]
        by_cases e : q = 8 * m + p
        · simp only [e, if_true]
        · simp only [e, if_false]
          rcases hc with ⟨_, _, _, rfl, hno⟩ | ⟨m0, hm0, hne, _, _, _, rfl, h8, hno⟩
          · rw [if_neg (hno q hq)]
          · rw [zs_eq, upd_if]
            by_cases e2 : q = 8 * m0 + p
            · simp only [e2, if_true, h8]
            · simp only [e2, if_false]; rw [if_neg (fun z => e2 (hno q hq z))]
      · rw [ro_at hm', zs_ne (by omega), zs_eq]
        have h9 := (rma_in hrm hn hm' hp').1
        rw [ro_at hm'] at h9
        by_cases e : m' = m
        · subst e
          rw [hμ3.2.1]
          by_cases e2 : p' = p
          · subst e2; rw [zu_eq, zu_eq]
          · rw [zu_ne e2, zu_ne (by omega)]
            rcases hc with ⟨_, _, rfl, rfl, _⟩ | ⟨m0, hm0, hne, _, _, rfl, rfl, _⟩
            · exact h9
            · rw [zs_ne (by omega), zs_eq, zu_ne (by omega)]; exact h9
        · rw [hμ3.1 _ (by omega) (by omega), zu_ne (by omega)]
          rcases hc with ⟨_, _, rfl, rfl, _⟩ | ⟨m0, hm0, hne, _, _, rfl, rfl, _⟩
          · exact h9
          · by_cases e3 : m' = m0
            · subst e3
              rw [zs_eq, zs_eq]
              by_cases e2 : p' = p
              · subst e2; rw [zu_eq, zu_eq]
              · rw [zu_ne e2, zu_ne (by omega)]; exact h9
            · rw [zs_ne (by omega), zs_eq, zu_ne (by omega)]; exact h9
      · rw [zs_eq, upd_if]
        by_cases e : s = i
        · simp only [e, if_true]
        · simp only [e, if_false]
          rw [hμ3.2.2.2 s hs, ← hwa]
          rcases hc with ⟨_, _, rfl, rfl, _⟩ | ⟨m0, hm0, hne, _, _, rfl, rfl, _⟩
          · rfl
          · rw [zs_ne (by omega)]
    have hB : ∀ b, b < 126 ∨ 133 ≤ b → (zset μ3 132 i (nI m)).1 b = μ.1 b := by
      intro b hb
      rw [zs_ne (by omega), hμ3.1 b (by omega) (by omega)]
      rcases hc with ⟨_, _, rfl, _⟩ | ⟨m0, hm0, _, _, _, rfl, _⟩
      · rfl
      · rw [zs_ne (by omega)]
    have hC : ∀ b, b ≠ 18 → (zset ν1 18 (8 * m + p) (nI i)).1 b = ν.1 b := by
      intro b hb
      rw [zs_ne hb]
      rcases hc with ⟨_, _, _, rfl, _⟩ | ⟨m0, hm0, _, _, _, _, rfl, _⟩
      · rfl
      · rw [zs_ne hb]
    have hD : ∀ a k, a + k ≤ 126 ∨ 133 ≤ a → rows a k (zset μ3 132 i (nI m)) = rows a k μ := by
      intro a k ha
      funext p' k'
      unfold rows
      split
      · rw [hB _ (by omega)]
      · rfl
    obtain ⟨r1, r2, r3, r4, r5, r6, r7, r8, r9, r10, r11, r12, r13, r14, r15, r16, r17, r18, r19, r20, r21, r22, r23, r24, r25, r26, r27, r28, r29, r30, r31⟩ := h
    unfold Rel
    rw [hC 0 (by omega), hC 13 (by omega), hmn]
    simp (disch := omega) only [hB, hC, hD]
    rw [hmn] at r12 r13
    exact ⟨r1, r2, r3, r4, r5, r6, r7, r8, r9, r10, r11, r12, r13, hR, r15, r16, r17, r18, r19, r20, r21, r22, r23, r24, r25, r26, r27, r28, r29, r30, r31⟩
theorem st_put (hM : Fma F) (h : Rel μ ν) (s t : Int32) : St F (d + 12) 106 176 [.int s, .int t] μ ν := by
  have hS := hM.1
  have hF := hS.1
  obtain ⟨n, hn, hx, hmn⟩ : RC 24 (μ.1 61 0) (ν.1 0 15) := by
    obtain ⟨r1, r2, r3, r4, r5, r6, r7, r8, r9, r10, r11, r12, r13, r14, r15, r16, r17, r18, r19, r20, r21, r22, r23, r24, r25, r26, r27, r28, r29, r30, r31⟩ := h
    exact r12
  by_cases ha : (0 ≤ s ∧ s < 6) ∧ 0 ≤ t ∧ t < nI n
  · obtain ⟨m, hm, rfl⟩ := zrg (n := 6) (by decide) ha.1
    obtain ⟨i, hi, rfl⟩ := zrg (n := n) (by omega) ha.2
    obtain ⟨⟨htx, hlo, hhi⟩, hrm⟩ : (μ.1 62 i = ν.1 13 i ∧ 0 ≤ (ν.1 13 i).toInt ∧ (ν.1 13 i).toInt ≤ 7) ∧ RMa (nI n) (ν.1 13) (rows 126 6 μ) (μ.1 132) (ν.1 18) := by
      obtain ⟨r1, r2, r3, r4, r5, r6, r7, r8, r9, r10, r11, r12, r13, r14, r15, r16, r17, r18, r19, r20, r21, r22, r23, r24, r25, r26, r27, r28, r29, r30, r31⟩ := h
      rw [hmn] at r13 r14
      exact ⟨(r13.1 i (by rw [nI_clamp (by omega)]; exact hi)).1, r14⟩
    obtain ⟨p, _, hp, hpe⟩ := zrt (n := 7) (Int.le_refl 0) (by decide) ⟨hlo, hhi⟩
    have hp8 : p < 8 := by omega
    have hq : ∀ q, q < 48 → ν.1 18 q = nI i → q % 8 = p ∧ μ.1 132 i = nI (q / 8) := by
      intro q hq e
      have h4 := (rma_in (m := q / 8) (p := q % 8) hrm hn (by omega) (by omega)).2
      rw [show 8 * (q / 8) + q % 8 = q by omega, e] at h4
      obtain ⟨t', ht', h5, h6, h7⟩ := h4.resolve_left (nI_nn (by omega))
      have e2 : i = t' := nI_i (by omega) (by omega) h5
      subst e2
      rw [hpe] at h6
      exact ⟨(nI_i (by omega) (by omega) h6).symm, h7⟩
    rcases rma_at hrm hn hi hp8 hpe with ⟨h1, h2⟩ | ⟨m0, hm0, h1, h2, h3⟩
    · refine st_put_move hM h hn hi hm hp8 hx hmn hpe (htx.trans hpe) (Or.inl ⟨h1, h2, rfl, rfl, fun q hq2 e => ?_⟩)
      have := (hq q hq2 e).2
      rw [h1] at this
      exact nI_nn (by omega) this.symm
    · by_cases e : m0 = m
      · subst e
        exact st_put_same hM h _ _ hn hi hm hp8 rfl rfl hx hmn hpe (htx.trans hpe) h1 h2 h3
      · refine st_put_move hM h hn hi hm hp8 hx hmn hpe (htx.trans hpe) (Or.inr ⟨m0, hm0, e, h1, h3, rfl, rfl, h2, fun q hq2 e2 => ?_⟩)
        obtain ⟨e3, e4⟩ := hq q hq2 e2
        rw [h1] at e4
        have := nI_i (by omega) (by omega) e4
        omega
  · refine ⟨.int (-101), μ, ν, fun P hP => ?_, fun P hP => ?_, h⟩
    · refine KK_in bd_106 rfl (Nat.le_of_ble_eq_true rfl) ?_; simp (disch := first | omega | (simp (disch := omega) only [forall_eq', Value.category, or_true, true_or, Option.isSome_some, Option.getD_some, true_and, and_true, and_self, forall_const, reduceCtorEq, Bool.false_eq_true, ite_true, ite_false, reduceIte, Nat.reduceLT, Nat.reduceLeDiff, Nat.reduceEqDiff, Nat.reduceAdd, Nat.reduceMul, decide_true, decide_false, Bool.true_and, Bool.and_true, Bool.false_and, Bool.and_false, Bool.or_false, Bool.false_or, not_true_eq_false, not_false_eq_true, Classical.not_not, false_implies, implies_true, decide_eq_true_eq, decide_eq_false_iff_not, Bool.not_eq_true, Bool.not_eq_false, Bool.not_eq_eq_eq_not, Bool.and_eq_true, Bool.or_eq_true, Bool.not_true, Bool.not_false, exists_eq_left, Option.some.injEq, Value.int.injEq, Value.long.injEq, Value.ref.injEq, zofN, znr0, zvpN, nI_clamp, nI_ltI, nI_leI, nI_eq, nI_a1, zN_lt, zN_le, zN_gt, zN_ge, zN_eq, zN_m1, Nat.zero_le, zLE, zi_eq0, zi01b, zi01c, zlast])) only [bd_106, sSeq, sIf, sSkip, sDecI, sDecL, sDecR, sSetI, sSetL, sInc, sRetI, sRetZ, sRetL, sRetR, sRetV, sScope, sPut, sPutL, sUpd, sSt, sStL, sStU, sStUL, sCpy, sCpyL, sCS, sCV, sSw, zsw, sBrk, xP, xCS, xCV, xNz, xI, xAnd, xOr, xNot, xT, xB, xInc, xPre, xIncL, xEq, eK, eV, eW, eR, eB, eU, eD, eT, eI, eAnd, eOr, eNot, eF, eFL, eFR, eA, eAL, eAR, eN, eCS, eCV, aN, aI, aL, aR, zen, zli, zlj, zlr, zob, rdI, rdL, rdR, zfk, List.cons_append, List.nil_append, List.set_cons_zero, List.set_cons_succ, List.take_succ_cons, List.take_zero, List.length_cons, List.length_nil, List.getElem?_cons_zero, List.getElem?_cons_succ, forall_eq', Value.category, or_true, true_or, Option.isSome_some, Option.getD_some, true_and, and_true, and_self, forall_const, reduceCtorEq, Bool.false_eq_true, ite_true, ite_false, reduceIte, Nat.reduceLT, Nat.reduceLeDiff, Nat.reduceEqDiff, Nat.reduceAdd, Nat.reduceMul, decide_true, decide_false, Bool.true_and, Bool.and_true, Bool.false_and, Bool.and_false, Bool.or_false, Bool.false_or, not_true_eq_false, not_false_eq_true, Classical.not_not, false_implies, implies_true, decide_eq_true_eq, decide_eq_false_iff_not, Bool.not_eq_true, Bool.not_eq_false, Bool.not_eq_eq_eq_not, Bool.and_eq_true, Bool.or_eq_true, Bool.not_true, Bool.not_false, exists_eq_left, Option.some.injEq, Value.int.injEq, Value.long.injEq, Value.ref.injEq, zFx0, zFx1, zFx2, zFx3, zFx4, zFx5, zFx6, zFx7, zFx8, zFx9, zFx10, zFx11, zFx12, zFx13, zFx14, zFm0, zFm1, zFm2, zFm3, zFm4, zofN, znr0, zvpN, nI_clamp, nI_ltI, nI_leI, nI_eq, nI_a1, zN_lt, zN_le, zN_gt, zN_ge, zN_eq, zN_m1, Nat.zero_le, zLE, zi_eq0, zi01b, zi01c, zlast, hM.f137, hM.f175, hM.f174, hM.f191, hM.f11, hM.f12, hM.f13, hM.f14, hM.f15, hM.f16, hM.f17, hM.f80, hM.f138, hM.f141, hM.f143, hM.f145, hM.f129, hM.f130, hM.f132, hM.f135, hM.f136, k129, k130, k132, k135, k11, k12, zset_self, k136 hM.a, k143 hM.dr, k174 hM.dr, k191 hM.dr, hx]
      grind
    · have ha2 : (!decide (0 ≤ s ∧ s < 6) || !decide (0 ≤ t ∧ t < nI n)) = true := by
        by_cases h1 : 0 ≤ s ∧ s < 6
        · have h2 : ¬ (0 ≤ t ∧ t < nI n) := fun h2 => ha ⟨h1, h2⟩
          rw [decide_eq_false h2]; simp
        · rw [decide_eq_false h1]; simp
      refine KK_in bd_176 rfl (Nat.le_of_ble_eq_true rfl) ?_; simp (disch := first | omega | (simp (disch := omega) only [forall_eq', Value.category, or_true, true_or, Option.isSome_some, Option.getD_some, true_and, and_true, and_self, forall_const, reduceCtorEq, Bool.false_eq_true, ite_true, ite_false, reduceIte, Nat.reduceLT, Nat.reduceLeDiff, Nat.reduceEqDiff, Nat.reduceAdd, Nat.reduceMul, decide_true, decide_false, Bool.true_and, Bool.and_true, Bool.false_and, Bool.and_false, Bool.or_false, Bool.false_or, not_true_eq_false, not_false_eq_true, Classical.not_not, false_implies, implies_true, decide_eq_true_eq, decide_eq_false_iff_not, Bool.not_eq_true, Bool.not_eq_false, Bool.not_eq_eq_eq_not, Bool.and_eq_true, Bool.or_eq_true, Bool.not_true, Bool.not_false, exists_eq_left, Option.some.injEq, Value.int.injEq, Value.long.injEq, Value.ref.injEq, zofN, znr0, zvpN, nI_clamp, nI_ltI, nI_leI, nI_eq, nI_a1, zN_lt, zN_le, zN_gt, zN_ge, zN_eq, zN_m1, Nat.zero_le, zLE, zi_eq0, zi01b, zi01c, zlast])) only [bd_176, sSeq, sIf, sSkip, sDecI, sDecL, sDecR, sSetI, sSetL, sInc, sRetI, sRetZ, sRetL, sRetR, sRetV, sScope, sPut, sPutL, sUpd, sSt, sStL, sStU, sStUL, sCpy, sCpyL, sCS, sCV, sSw, zsw, sBrk, xP, xCS, xCV, xNz, xI, xAnd, xOr, xNot, xT, xB, xInc, xPre, xIncL, xEq, eK, eV, eW, eR, eB, eU, eD, eT, eI, eAnd, eOr, eNot, eF, eFL, eFR, eA, eAL, eAR, eN, eCS, eCV, aN, aI, aL, aR, zen, zli, zlj, zlr, zob, rdI, rdL, rdR, zfk, List.cons_append, List.nil_append, List.set_cons_zero, List.set_cons_succ, List.take_succ_cons, List.take_zero, List.length_cons, List.length_nil, List.getElem?_cons_zero, List.getElem?_cons_succ, forall_eq', Value.category, or_true, true_or, Option.isSome_some, Option.getD_some, true_and, and_true, and_self, forall_const, reduceCtorEq, Bool.false_eq_true, ite_true, ite_false, reduceIte, Nat.reduceLT, Nat.reduceLeDiff, Nat.reduceEqDiff, Nat.reduceAdd, Nat.reduceMul, decide_true, decide_false, Bool.true_and, Bool.and_true, Bool.false_and, Bool.and_false, Bool.or_false, Bool.false_or, not_true_eq_false, not_false_eq_true, Classical.not_not, false_implies, implies_true, decide_eq_true_eq, decide_eq_false_iff_not, Bool.not_eq_true, Bool.not_eq_false, Bool.not_eq_eq_eq_not, Bool.and_eq_true, Bool.or_eq_true, Bool.not_true, Bool.not_false, exists_eq_left, Option.some.injEq, Value.int.injEq, Value.long.injEq, Value.ref.injEq, zFx0, zFx1, zFx2, zFx3, zFx4, zFx5, zFx6, zFx7, zFx8, zFx9, zFx10, zFx11, zFx12, zFx13, zFx14, zFm0, zFm1, zFm2, zFm3, zFm4, zofN, znr0, zvpN, nI_clamp, nI_ltI, nI_leI, nI_eq, nI_a1, zN_lt, zN_le, zN_gt, zN_ge, zN_eq, zN_m1, Nat.zero_le, zLE, zi_eq0, zi01b, zi01c, zlast, hM.f137, hM.f175, hM.f174, hM.f191, hM.f11, hM.f12, hM.f13, hM.f14, hM.f15, hM.f16, hM.f17, hM.f80, hM.f138, hM.f141, hM.f143, hM.f145, hM.f129, hM.f130, hM.f132, hM.f135, hM.f136, k129, k130, k132, k135, k11, k12, zset_self, k136 hM.a, k143 hM.dr, k174 hM.dr, k191 hM.dr, k137 hF hn hmn, hmn, ha2]
      grind
end KO2
