/-! LAYER B: fault, chain: the class reads as the reference does -/
def TX (μ : ZM) (L : Nat → Nat) (n : Nat) (μ1 : ZM) (k tm : Nat) (ss : Nat → Int32) (pp : Nat → Nat) : Prop := PgX L n k μ1 ∧ (∀ a, a ≠ 16 → a ≠ 18 → a ≠ 19 → μ1.1 a = μ.1 a) ∧ μ1.1 16 4 = nI tm ∧ μ1.1 16 8 = 0 ∧ ∀ t, t < tm → μ1.1 18 t = ss t ∧ μ1.1 19 t = nI (pp t)
def whoR (n : Nat) (R : Nat × AC) : Bool := decide (R.1 = n) && decide (R.2.1 = 5) && decide (R.2.2.2.1 = 1)
/-- what the class's scratch holds behind a reading that came to R -/
def QX (μ : ZM) (n : Nat) (μ' : ZM) (R : Nat × AC) : Prop := (∀ a, a ≠ 16 → a ≠ 18 → a ≠ 19 → μ'.1 a = μ.1 a) ∧ μ'.1 16 1 = nI n ∧ μ'.1 16 7 = nI R.1 ∧ μ'.1 16 8 = zi (whoR n R) ∧ (whoR n R = true → μ'.1 16 4 = nI R.2.2.1 ∧ μ'.1 16 5 = R.2.2.2.2.2.2.2.2.2 0 ∧ μ'.1 16 6 = R.2.2.2.2.2.2.2.2.2 1 ∧ ∀ t, t < R.2.2.1 → μ'.1 18 t = R.2.2.2.2.2.2.2.1 t ∧ μ'.1 19 t = nI (R.2.2.2.2.2.2.2.2.1 t))
theorem upd_upd (f : Nat → Int32) (k : Nat) (x y : Int32) : upd (upd f k x) k y = upd f k y := by
  funext j
  by_cases e : j = k
  · subst e; rw [zu_eq, zu_eq]
  · rw [zu_ne e, zu_ne e, zu_ne e]
theorem num_good {L : Nat → Nat} {n : Nat} {R : Nat × AC} {k k1 j tm bo : Nat} {ng : Bool} {ss bb : Nat → Int32} {pp : Nat → Nat} (hn : n ≤ 40) (hG : Good L n R k (3, tm, bo, 0, false, 0, ss, pp, bb)) (hng : ng = nxN L n k 45 45) (hk1 : k1 = (if ng = true then k + 1 else k)) (hj4 : j ≤ 4) (hall : ∀ i, i < j → nxN L n (k1 + i) 48 57 = true) :
    Good L n R (k1 + j) (if j = 0 then ((if ng = true then 4 else 3), tm, bo, 0, ng, 0, ss, pp, bb) else (5, tm, bo, j, ng, vlN L k1 j, ss, pp, upd bb bo (sgV ng (vlN L k1 j)))) := by
  induction j with
  | zero =>
    rw [if_pos rfl, Nat.add_zero]
    cases ng with
    | false =>
      rw [if_neg (by decide)] at hk1 ⊢
      rw [hk1]; exact hG
    | true =>
      rw [if_pos rfl] at hk1 ⊢
      rw [hk1]
      obtain ⟨a1, a2, a3⟩ := nx_t hng.symm
      refine good_step hn hG a1 ?_
      have e : L k = 45 := by omega
      rw [e]
      simp [stp]
  | succ j ih =>
    have hp := ih (by omega) fun i hi => hall i (by omega)
    obtain ⟨a1, a2, a3⟩ := nx_t (hall j (by omega))
    rw [if_neg (by omega)]
    show Good L n R (k1 + j + 1) _
    refine good_step hn hp a1 ?_
    generalize hc : L (k1 + j) = c at a2 a3
    have ev : vlN L k1 (j + 1) = 10 * vlN L k1 j + (c - 48) := by rw [← hc]; rfl
    rw [ev]
    by_cases j0 : j = 0
    · subst j0
      rw [if_pos rfl]
      have c45 : c ≠ 45 := by omega
      cases ng <;> simp [stp, a2, a3, c45, vlN]
    · rw [if_neg j0]
      have j4 : j < 4 := by omega
      have c1 : c ≠ 43 := by omega
      have c2 : c ≠ 45 := by omega
      simp [stp, a2, a3, j4, upd_upd]
theorem stp_none {c st tm bo dg v : Nat} {ng : Bool} {ss bb : Nat → Int32} {pp : Nat → Nat} (h1 : ¬ ((st = 0 ∨ st = 2 ∧ tm < 6) ∧ (c = 43 ∨ c = 45))) (h2 : ¬ (st = 1 ∧ 97 ≤ c ∧ c ≤ 104)) (h3 : ¬ (st = 2 ∧ c = 61)) (h4 : ¬ (st = 3 ∧ c = 45)) (h5 : ¬ ((st = 3 ∨ st = 4 ∨ st = 5 ∧ dg < 4) ∧ 48 ≤ c ∧ c ≤ 57)) (h6 : ¬ (st = 5 ∧ bo = 0 ∧ c = 126)) : stp c (st, tm, bo, dg, ng, v, ss, pp, bb) = none := by
  unfold stp
  simp only
  rw [if_neg h1, if_neg h2, if_neg h3, if_neg h4, if_neg h5, if_neg h6]
section KE4
variable {F : ZFt} {d : Nat} {μ ν : ZM} {P : Option Value → ZM → Prop} {n k : Nat} {L : Nat → Nat} {R : Nat × AC}
theorem who_f {k st tm bo dg v : Nat} {ng : Bool} {ss bb : Nat → Int32} {pp : Nat → Nat} (h : st ≠ 5 ∨ bo ≠ 1) : whoR n (k, st, tm, bo, dg, ng, v, ss, pp, bb) = false := by
  unfold whoR
  simp only
  rcases h with h | h <;> simp [h]
/-- a reading that stops short -/
theorem qx_f {μ1 : ZM} {st tm bo dg v : Nat} {ng : Bool} {ss bb : Nat → Int32} {pp : Nat → Nat} (hR : R = (k, st, tm, bo, dg, ng, v, ss, pp, bb)) (h5 : st ≠ 5 ∨ bo ≠ 1) (h1 : ∀ a, a ≠ 16 → a ≠ 18 → a ≠ 19 → μ1.1 a = μ.1 a) (h2 : μ1.1 16 1 = nI n) (h3 : μ1.1 16 7 = nI k) (h4 : μ1.1 16 8 = 0) : QX μ n μ1 R := by
  have hw : whoR n R = false := by rw [hR]; exact who_f h5
  exact ⟨h1, h2, by rw [hR]; exact h3, by rw [hw]; exact h4, fun z => by rw [hw] at z; cases z⟩
theorem k55 (hpg : Fpg F) (hn : n ≤ 40) (hx : μ.1 16 1 = nI n) (hL : ∀ j, j < n → μ.1 17 j = nI (L j) ∧ 1 ≤ L j ∧ L j ≤ 126) (hR : runA L n 41 0 A0 = R) (h : ∀ μ', QX μ n μ' R → P none μ') : KK Zx F (d + 5) 55 [.ref 16] μ P := by
  refine KK_in bd_55 rfl (Nat.le_of_ble_eq_true rfl) ?_; simp (disch := first | omega | (simp (disch := omega) only [forall_eq', Value.category, or_true, true_or, Option.isSome_some, Option.getD_some, true_and, and_true, and_self, forall_const, reduceCtorEq, Bool.false_eq_true, ite_true, ite_false, reduceIte, Nat.reduceLT, Nat.reduceLeDiff, Nat.reduceEqDiff, Nat.reduceAdd, Nat.reduceMul, decide_true, decide_false, Bool.true_and, Bool.and_true, Bool.false_and, Bool.and_false, Bool.or_false, Bool.false_or, not_true_eq_false, not_false_eq_true, Classical.not_not, false_implies, implies_true, decide_eq_true_eq, decide_eq_false_iff_not, Bool.not_eq_true, Bool.not_eq_false, Bool.not_eq_eq_eq_not, Bool.and_eq_true, Bool.or_eq_true, Bool.not_true, Bool.not_false, exists_eq_left, Option.some.injEq, Value.int.injEq, Value.long.injEq, Value.ref.injEq, zofN, znr0, zvpN, nI_clamp, nI_ltI, nI_leI, nI_eq, nI_a1, zN_lt, zN_le, zN_gt, zN_ge, zN_eq, zN_m1, Nat.zero_le, zLE, zi_eq0, zi01b, zi01c, zlast])) only [bd_55, sSeq, sIf, sSkip, sDecI, sDecL, sDecR, sSetI, sSetL, sInc, sRetI, sRetZ, sRetL, sRetR, sRetV, sScope, sPut, sPutL, sUpd, sSt, sStL, sStU, sStUL, sCpy, sCpyL, sCS, sCV, sSw, zsw, sBrk, xP, xCS, xCV, xNz, xI, xAnd, xOr, xNot, xT, xB, xInc, xPre, xIncL, xEq, eK, eV, eW, eR, eB, eU, eD, eT, eI, eAnd, eOr, eNot, eF, eFL, eFR, eA, eAL, eAR, eN, eCS, eCV, aN, aI, aL, aR, zen, zli, zlj, zlr, zob, rdI, rdL, rdR, zfk, List.cons_append, List.nil_append, List.set_cons_zero, List.set_cons_succ, List.take_succ_cons, List.take_zero, List.length_cons, List.length_nil, List.getElem?_cons_zero, List.getElem?_cons_succ, forall_eq', Value.category, or_true, true_or, Option.isSome_some, Option.getD_some, true_and, and_true, and_self, forall_const, reduceCtorEq, Bool.false_eq_true, ite_true, ite_false, reduceIte, Nat.reduceLT, Nat.reduceLeDiff, Nat.reduceEqDiff, Nat.reduceAdd, Nat.reduceMul, decide_true, decide_false, Bool.true_and, Bool.and_true, Bool.false_and, Bool.and_false, Bool.or_false, Bool.false_or, not_true_eq_false, not_false_eq_true, Classical.not_not, false_implies, implies_true, decide_eq_true_eq, decide_eq_false_iff_not, Bool.not_eq_true, Bool.not_eq_false, Bool.not_eq_eq_eq_not, Bool.and_eq_true, Bool.or_eq_true, Bool.not_true, Bool.not_false, exists_eq_left, Option.some.injEq, Value.int.injEq, Value.long.injEq, Value.ref.injEq, zFx0, zFx1, zFx2, zFx3, zFx4, zFx5, zFx6, zFx7, zFx8, zFx9, zFx10, zFx11, zFx12, zFx13, zFx14, zFm0, zFm1, zFm2, zFm3, zFm4, zofN, znr0, zvpN, nI_clamp, nI_ltI, nI_leI, nI_eq, nI_a1, zN_lt, zN_le, zN_gt, zN_ge, zN_eq, zN_m1, Nat.zero_le, zLE, zi_eq0, zi01b, zi01c, zlast, hpg.f56, hpg.f57, hpg.f134, hpg.f133, hpg.f20, hpg.f10, hpg.f88, hpg.f45, hpg.f78, hpg.f53, hpg.f32, hpg.f74, hpg.f61, hpg.f34, hpg.f127, hpg.f211, hpg.f73, hpg.f72, hpg.f209, hpg.f216, hpg.f29, hpg.f31, hpg.f30, hpg.f28, hpg.f27, hpg.f204, hpg.f205, hpg.f76, hpg.f77, hpg.f217, hpg.f187, hpg.f43, hpg.f42, hpg.f44, hpg.f186, hpg.f188, hpg.f35, hpg.f36, hpg.f37, hpg.f178, hpg.f180, hpg.f1, hpg.f2, hpg.f3, hpg.f4, hpg.f5, hpg.f153, hpg.f154, hpg.f155, hpg.f156, hpg.f157, hpg.f164, hpg.f165, hpg.f166, hpg.f81, hpg.f84, hpg.f85, hpg.f86, hpg.f87, hpg.f137, hpg.f175, hpg.f174, hpg.f191, hpg.f11, hpg.f12, hpg.f13, hpg.f14, hpg.f15, hpg.f16, hpg.f17, hpg.f80, hpg.f138, hpg.f141, hpg.f143, hpg.f145, hpg.f129, hpg.f130, hpg.f132, hpg.f135, hpg.f136, k129, k130, k132, k135, k11, k12, zset_self, k136 hpg.a, k143 hpg.dr, k174 hpg.dr, k191 hpg.dr]
  refine whl_up 6 (fun i σ => ∃ μ1 k ss pp, σ = ([.ref 16, .int (nI i)], μ1) ∧ TX μ L n μ1 k i ss pp ∧ Good L n R k ((if i = 0 then 0 else 2), i, 0, 0, false, 0, ss, pp, fun _ => 0) ∧ (i = 0 → k = 0)) ⟨zset (zset (zset μ 16 7 0) 16 4 0) 16 8 0, 0, fun _ => 1, fun _ => 0, rfl, ⟨⟨hn, Nat.zero_le n, by simp [zs_at, hx], by simp [zs_at]; rfl, fun j hj => by simp only [zs_at]; simpa using hL j hj⟩, fun a h1 h2 h3 => by rw [zs_ne h1, zs_ne h1, zs_ne h1], by simp [zs_at]; rfl, by simp [zs_at], fun t ht => absurd ht (Nat.not_lt_zero t)⟩, ⟨Nat.zero_le n, hR⟩, fun _ => rfl⟩ ?_
  rintro i σ Nx hNx hi ⟨μ1, k, ss, pp, rfl, hT, hG, hi0⟩
  obtain ⟨hP, t1, t2, t3, t4⟩ := id hT
  have x43 : nxX μ1 43 43 = nxN L n k 43 43 := nx_eq (a := 43) (b := 43) hP (by decide) (by decide)
  have x45 : nxX μ1 45 45 = nxN L n k 45 45 := nx_eq (a := 45) (b := 45) hP (by decide) (by decide)
  have g57 := fun Q => k57 (d := d + 1) (P := Q) hpg hP
  rw [x43, x45] at g57
  have k0 := hP.2.2.2.1
  have h1n := hP.2.2.1
  by_cases hs : i < 6 ∧ (nxN L n k 43 43 || nxN L n k 45 45) = true
  · obtain ⟨hi6, hsg⟩ := hs
    have hkn : k < n := by
      rcases Bool.or_eq_true_iff.mp hsg with z | z
      · exact (nx_t z).1
      · exact (nx_t z).1
    have hc : L k = 43 ∨ L k = 45 := by
      rcases Bool.or_eq_true_iff.mp hsg with z | z
      · have := nx_t z; omega
      · have := nx_t z; omega
    have hst : stp (L k) ((if i = 0 then 0 else 2), i, 0, 0, false, 0, ss, pp, fun _ => 0) = some (1, i, 0, 0, false, 0, upd ss i (if L k = 43 then 1 else -1), pp, fun _ => 0) := by
      by_cases h0 : i = 0
      · simp [stp, h0, hc]
      · simp [stp, h0, hc, hi6]
    have hG1 := good_step hn hG hkn hst
    rw [hsg] at g57
    simp (disch := first | omega | (simp (disch := omega) only [forall_eq', Value.category, or_true, true_or, Option.isSome_some, Option.getD_some, true_and, and_true, and_self, forall_const, reduceCtorEq, Bool.false_eq_true, ite_true, ite_false, reduceIte, Nat.reduceLT, Nat.reduceLeDiff, Nat.reduceEqDiff, Nat.reduceAdd, Nat.reduceMul, decide_true, decide_false, Bool.true_and, Bool.and_true, Bool.false_and, Bool.and_false, Bool.or_false, Bool.false_or, not_true_eq_false, not_false_eq_true, Classical.not_not, false_implies, implies_true, decide_eq_true_eq, decide_eq_false_iff_not, Bool.not_eq_true, Bool.not_eq_false, Bool.not_eq_eq_eq_not, Bool.and_eq_true, Bool.or_eq_true, Bool.not_true, Bool.not_false, exists_eq_left, Option.some.injEq, Value.int.injEq, Value.long.injEq, Value.ref.injEq, zofN, znr0, zvpN, nI_clamp, nI_ltI, nI_leI, nI_eq, nI_a1, zN_lt, zN_le, zN_gt, zN_ge, zN_eq, zN_m1, Nat.zero_le, zLE, zi_eq0, zi01b, zi01c, zlast, hi6, x43, x45, hsg, g57])) only [sSeq, sIf, sSkip, sDecI, sDecL, sDecR, sSetI, sSetL, sInc, sRetI, sRetZ, sRetL, sRetR, sRetV, sScope, sPut, sPutL, sUpd, sSt, sStL, sStU, sStUL, sCpy, sCpyL, sCS, sCV, sSw, zsw, sBrk, xP, xCS, xCV, xNz, xI, xAnd, xOr, xNot, xT, xB, xInc, xPre, xIncL, xEq, eK, eV, eW, eR, eB, eU, eD, eT, eI, eAnd, eOr, eNot, eF, eFL, eFR, eA, eAL, eAR, eN, eCS, eCV, aN, aI, aL, aR, zen, zli, zlj, zlr, zob, rdI, rdL, rdR, zfk, List.cons_append, List.nil_append, List.set_cons_zero, List.set_cons_succ, List.take_succ_cons, List.take_zero, List.length_cons, List.length_nil, List.getElem?_cons_zero, List.getElem?_cons_succ, forall_eq', Value.category, or_true, true_or, Option.isSome_some, Option.getD_some, true_and, and_true, and_self, forall_const, reduceCtorEq, Bool.false_eq_true, ite_true, ite_false, reduceIte, Nat.reduceLT, Nat.reduceLeDiff, Nat.reduceEqDiff, Nat.reduceAdd, Nat.reduceMul, decide_true, decide_false, Bool.true_and, Bool.and_true, Bool.false_and, Bool.and_false, Bool.or_false, Bool.false_or, not_true_eq_false, not_false_eq_true, Classical.not_not, false_implies, implies_true, decide_eq_true_eq, decide_eq_false_iff_not, Bool.not_eq_true, Bool.not_eq_false, Bool.not_eq_eq_eq_not, Bool.and_eq_true, Bool.or_eq_true, Bool.not_true, Bool.not_false, exists_eq_left, Option.some.injEq, Value.int.injEq, Value.long.injEq, Value.ref.injEq, zFx0, zFx1, zFx2, zFx3, zFx4, zFx5, zFx6, zFx7, zFx8, zFx9, zFx10, zFx11, zFx12, zFx13, zFx14, zFm0, zFm1, zFm2, zFm3, zFm4, zofN, znr0, zvpN, nI_clamp, nI_ltI, nI_leI, nI_eq, nI_a1, zN_lt, zN_le, zN_gt, zN_ge, zN_eq, zN_m1, Nat.zero_le, zLE, zi_eq0, zi01b, zi01c, zlast, hpg.f56, hpg.f57, hpg.f134, hpg.f133, hpg.f20, hpg.f10, hpg.f88, hpg.f45, hpg.f78, hpg.f53, hpg.f32, hpg.f74, hpg.f61, hpg.f34, hpg.f127, hpg.f211, hpg.f73, hpg.f72, hpg.f209, hpg.f216, hpg.f29, hpg.f31, hpg.f30, hpg.f28, hpg.f27, hpg.f204, hpg.f205, hpg.f76, hpg.f77, hpg.f217, hpg.f187, hpg.f43, hpg.f42, hpg.f44, hpg.f186, hpg.f188, hpg.f35, hpg.f36, hpg.f37, hpg.f178, hpg.f180, hpg.f1, hpg.f2, hpg.f3, hpg.f4, hpg.f5, hpg.f153, hpg.f154, hpg.f155, hpg.f156, hpg.f157, hpg.f164, hpg.f165, hpg.f166, hpg.f81, hpg.f84, hpg.f85, hpg.f86, hpg.f87, hpg.f137, hpg.f175, hpg.f174, hpg.f191, hpg.f11, hpg.f12, hpg.f13, hpg.f14, hpg.f15, hpg.f16, hpg.f17, hpg.f80, hpg.f138, hpg.f141, hpg.f143, hpg.f145, hpg.f129, hpg.f130, hpg.f132, hpg.f135, hpg.f136, k129, k130, k132, k135, k11, k12, zset_self, k136 hpg.a, k143 hpg.dr, k174 hpg.dr, k191 hpg.dr, hi6, x43, x45, hsg, g57]
    refine k59 (d := d + 1) hpg hP hkn t2 hi6 (fun sg hsg2 => ?_)
    have esg : sg = (if L k = 43 then 1 else -1) := by
      rw [hsg2]
      rcases hc with z | z
      · have : nxN L n k 45 45 = false := by unfold nxN; simp [z]
        rw [this, z]; simp
      · have : nxN L n k 45 45 = true := by unfold nxN; simp [z, hkn]
        rw [this, z]; simp
    by_cases b1 : nxN L n (k + 1) 97 104 = true
    · rw [if_pos b1]
      obtain ⟨q1, q2, q3⟩ := nx_t b1
      have hst2 : stp (L (k + 1)) (1, i, 0, 0, false, 0, upd ss i (if L k = 43 then 1 else -1), pp, fun _ => 0) = some (2, i + 1, 0, 0, false, 0, upd ss i (if L k = 43 then 1 else -1), uN1 pp i (L (k + 1) - 97), fun _ => 0) := by simp [stp, q2, q3]
      have hG2 := good_step hn hG1 q1 hst2
      refine ⟨1, rfl, fun z => absurd z (by decide), fun _ => hNx _ hi6 ⟨_, k + 2, upd ss i (if L k = 43 then 1 else -1), uN1 pp i (L (k + 1) - 97), rfl, ⟨⟨hn, by omega, by simp [zs_at, h1n], by simp [zs_at], fun j hj => by simp only [zs_at]; simpa using hP.2.2.2.2 j hj⟩, fun a a1 a2 a3 => by rw [zs_ne a1, zs_ne a1, zs_ne a3, zs_ne a2]; exact t1 a a1 a2 a3, by simp [zs_at], by simp [zs_at, t3], fun t ht => ?_⟩, by rw [if_neg (by omega)]; exact hG2, fun z => absurd z (by omega)⟩⟩
      simp only [zs_at, upd_if, uN1, esg]
      by_cases e : t = i
      · subst e; simp
      · have := t4 t (by omega)
        simpa [e] using this
    · rw [if_neg b1]
      rw [Bool.not_eq_true] at b1
      have hRs := good_stop hn hG1 (by
        by_cases hk2 : k + 1 < n
        · right
          have := nx_f b1 hk2
          simp [stp]
          omega
        · left; omega)
      exact ⟨0, rfl, fun _ => h _ (qx_f hRs (Or.inl (by decide)) (fun a a1 a2 a3 => by rw [zs_ne a1]; exact t1 a a1 a2 a3) (by simp [zs_at, h1n]) (by simp [zs_at]) (by simp [zs_at, t3])), fun z => absurd rfl z⟩
  · have hsf : i < 6 → nxN L n k 43 43 = false ∧ nxN L n k 45 45 = false := fun z => by
      have : (nxN L n k 43 43 || nxN L n k 45 45) = false := by rw [← Bool.not_eq_true]; exact fun y => hs ⟨z, y⟩
      exact Bool.or_eq_false_iff.mp this
    have hcond : ((eAnd (eB (fun x y : Int32 => decide (x < y)) (eV 1) (eK (6 : Int32))) (eU (fun x : Int32 => decide (¬ x = 0)) (eCV Value.int rdI Zx 6 (KK Zx F (d + 4)) F 57 (aR (eR 0) aN)))) ([.ref 16, .int (nI i)], μ1)).1 ∧ ((eAnd (eB (fun x y : Int32 => decide (x < y)) (eV 1) (eK (6 : Int32))) (eU (fun x : Int32 => decide (¬ x = 0)) (eCV Value.int rdI Zx 6 (KK Zx F (d + 4)) F 57 (aR (eR 0) aN)))) ([.ref 16, .int (nI i)], μ1)).2 = false := by
      by_cases hi6 : i < 6
      · obtain ⟨s1, s2⟩ := hsf hi6
        rw [s1, s2] at g57
        simp (disch := first | omega | (simp (disch := omega) only [forall_eq', Value.category, or_true, true_or, Option.isSome_some, Option.getD_some, true_and, and_true, and_self, forall_const, reduceCtorEq, Bool.false_eq_true, ite_true, ite_false, reduceIte, Nat.reduceLT, Nat.reduceLeDiff, Nat.reduceEqDiff, Nat.reduceAdd, Nat.reduceMul, decide_true, decide_false, Bool.true_and, Bool.and_true, Bool.false_and, Bool.and_false, Bool.or_false, Bool.false_or, not_true_eq_false, not_false_eq_true, Classical.not_not, false_implies, implies_true, decide_eq_true_eq, decide_eq_false_iff_not, Bool.not_eq_true, Bool.not_eq_false, Bool.not_eq_eq_eq_not, Bool.and_eq_true, Bool.or_eq_true, Bool.not_true, Bool.not_false, exists_eq_left, Option.some.injEq, Value.int.injEq, Value.long.injEq, Value.ref.injEq, zofN, znr0, zvpN, nI_clamp, nI_ltI, nI_leI, nI_eq, nI_a1, zN_lt, zN_le, zN_gt, zN_ge, zN_eq, zN_m1, Nat.zero_le, zLE, zi_eq0, zi01b, zi01c, zlast, hi6, x43, x45, s1, s2, g57])) only [sSeq, sIf, sSkip, sDecI, sDecL, sDecR, sSetI, sSetL, sInc, sRetI, sRetZ, sRetL, sRetR, sRetV, sScope, sPut, sPutL, sUpd, sSt, sStL, sStU, sStUL, sCpy, sCpyL, sCS, sCV, sSw, zsw, sBrk, xP, xCS, xCV, xNz, xI, xAnd, xOr, xNot, xT, xB, xInc, xPre, xIncL, xEq, eK, eV, eW, eR, eB, eU, eD, eT, eI, eAnd, eOr, eNot, eF, eFL, eFR, eA, eAL, eAR, eN, eCS, eCV, aN, aI, aL, aR, zen, zli, zlj, zlr, zob, rdI, rdL, rdR, zfk, List.cons_append, List.nil_append, List.set_cons_zero, List.set_cons_succ, List.take_succ_cons, List.take_zero, List.length_cons, List.length_nil, List.getElem?_cons_zero, List.getElem?_cons_succ, forall_eq', Value.category, or_true, true_or, Option.isSome_some, Option.getD_some, true_and, and_true, and_self, forall_const, reduceCtorEq, Bool.false_eq_true, ite_true, ite_false, reduceIte, Nat.reduceLT, Nat.reduceLeDiff, Nat.reduceEqDiff, Nat.reduceAdd, Nat.reduceMul, decide_true, decide_false, Bool.true_and, Bool.and_true, Bool.false_and, Bool.and_false, Bool.or_false, Bool.false_or, not_true_eq_false, not_false_eq_true, Classical.not_not, false_implies, implies_true, decide_eq_true_eq, decide_eq_false_iff_not, Bool.not_eq_true, Bool.not_eq_false, Bool.not_eq_eq_eq_not, Bool.and_eq_true, Bool.or_eq_true, Bool.not_true, Bool.not_false, exists_eq_left, Option.some.injEq, Value.int.injEq, Value.long.injEq, Value.ref.injEq, zFx0, zFx1, zFx2, zFx3, zFx4, zFx5, zFx6, zFx7, zFx8, zFx9, zFx10, zFx11, zFx12, zFx13, zFx14, zFm0, zFm1, zFm2, zFm3, zFm4, zofN, znr0, zvpN, nI_clamp, nI_ltI, nI_leI, nI_eq, nI_a1, zN_lt, zN_le, zN_gt, zN_ge, zN_eq, zN_m1, Nat.zero_le, zLE, zi_eq0, zi01b, zi01c, zlast, hpg.f56, hpg.f57, hpg.f134, hpg.f133, hpg.f20, hpg.f10, hpg.f88, hpg.f45, hpg.f78, hpg.f53, hpg.f32, hpg.f74, hpg.f61, hpg.f34, hpg.f127, hpg.f211, hpg.f73, hpg.f72, hpg.f209, hpg.f216, hpg.f29, hpg.f31, hpg.f30, hpg.f28, hpg.f27, hpg.f204, hpg.f205, hpg.f76, hpg.f77, hpg.f217, hpg.f187, hpg.f43, hpg.f42, hpg.f44, hpg.f186, hpg.f188, hpg.f35, hpg.f36, hpg.f37, hpg.f178, hpg.f180, hpg.f1, hpg.f2, hpg.f3, hpg.f4, hpg.f5, hpg.f153, hpg.f154, hpg.f155, hpg.f156, hpg.f157, hpg.f164, hpg.f165, hpg.f166, hpg.f81, hpg.f84, hpg.f85, hpg.f86, hpg.f87, hpg.f137, hpg.f175, hpg.f174, hpg.f191, hpg.f11, hpg.f12, hpg.f13, hpg.f14, hpg.f15, hpg.f16, hpg.f17, hpg.f80, hpg.f138, hpg.f141, hpg.f143, hpg.f145, hpg.f129, hpg.f130, hpg.f132, hpg.f135, hpg.f136, k129, k130, k132, k135, k11, k12, zset_self, k136 hpg.a, k143 hpg.dr, k174 hpg.dr, k191 hpg.dr, hi6, x43, x45, s1, s2, g57]
      · simp (disch := first | omega | (simp (disch := omega) only [forall_eq', Value.category, or_true, true_or, Option.isSome_some, Option.getD_some, true_and, and_true, and_self, forall_const, reduceCtorEq, Bool.false_eq_true, ite_true, ite_false, reduceIte, Nat.reduceLT, Nat.reduceLeDiff, Nat.reduceEqDiff, Nat.reduceAdd, Nat.reduceMul, decide_true, decide_false, Bool.true_and, Bool.and_true, Bool.false_and, Bool.and_false, Bool.or_false, Bool.false_or, not_true_eq_false, not_false_eq_true, Classical.not_not, false_implies, implies_true, decide_eq_true_eq, decide_eq_false_iff_not, Bool.not_eq_true, Bool.not_eq_false, Bool.not_eq_eq_eq_not, Bool.and_eq_true, Bool.or_eq_true, Bool.not_true, Bool.not_false, exists_eq_left, Option.some.injEq, Value.int.injEq, Value.long.injEq, Value.ref.injEq, zofN, znr0, zvpN, nI_clamp, nI_ltI, nI_leI, nI_eq, nI_a1, zN_lt, zN_le, zN_gt, zN_ge, zN_eq, zN_m1, Nat.zero_le, zLE, zi_eq0, zi01b, zi01c, zlast, hi6])) only [sSeq, sIf, sSkip, sDecI, sDecL, sDecR, sSetI, sSetL, sInc, sRetI, sRetZ, sRetL, sRetR, sRetV, sScope, sPut, sPutL, sUpd, sSt, sStL, sStU, sStUL, sCpy, sCpyL, sCS, sCV, sSw, zsw, sBrk, xP, xCS, xCV, xNz, xI, xAnd, xOr, xNot, xT, xB, xInc, xPre, xIncL, xEq, eK, eV, eW, eR, eB, eU, eD, eT, eI, eAnd, eOr, eNot, eF, eFL, eFR, eA, eAL, eAR, eN, eCS, eCV, aN, aI, aL, aR, zen, zli, zlj, zlr, zob, rdI, rdL, rdR, zfk, List.cons_append, List.nil_append, List.set_cons_zero, List.set_cons_succ, List.take_succ_cons, List.take_zero, List.length_cons, List.length_nil, List.getElem?_cons_zero, List.getElem?_cons_succ, forall_eq', Value.category, or_true, true_or, Option.isSome_some, Option.getD_some, true_and, and_true, and_self, forall_const, reduceCtorEq, Bool.false_eq_true, ite_true, ite_false, reduceIte, Nat.reduceLT, Nat.reduceLeDiff, Nat.reduceEqDiff, Nat.reduceAdd, Nat.reduceMul, decide_true, decide_false, Bool.true_and, Bool.and_true, Bool.false_and, Bool.and_false, Bool.or_false, Bool.false_or, not_true_eq_false, not_false_eq_true, Classical.not_not, false_implies, implies_true, decide_eq_true_eq, decide_eq_false_iff_not, Bool.not_eq_true, Bool.not_eq_false, Bool.not_eq_eq_eq_not, Bool.and_eq_true, Bool.or_eq_true, Bool.not_true, Bool.not_false, exists_eq_left, Option.some.injEq, Value.int.injEq, Value.long.injEq, Value.ref.injEq, zFx0, zFx1, zFx2, zFx3, zFx4, zFx5, zFx6, zFx7, zFx8, zFx9, zFx10, zFx11, zFx12, zFx13, zFx14, zFm0, zFm1, zFm2, zFm3, zFm4, zofN, znr0, zvpN, nI_clamp, nI_ltI, nI_leI, nI_eq, nI_a1, zN_lt, zN_le, zN_gt, zN_ge, zN_eq, zN_m1, Nat.zero_le, zLE, zi_eq0, zi01b, zi01c, zlast, hpg.f56, hpg.f57, hpg.f134, hpg.f133, hpg.f20, hpg.f10, hpg.f88, hpg.f45, hpg.f78, hpg.f53, hpg.f32, hpg.f74, hpg.f61, hpg.f34, hpg.f127, hpg.f211, hpg.f73, hpg.f72, hpg.f209, hpg.f216, hpg.f29, hpg.f31, hpg.f30, hpg.f28, hpg.f27, hpg.f204, hpg.f205, hpg.f76, hpg.f77, hpg.f217, hpg.f187, hpg.f43, hpg.f42, hpg.f44, hpg.f186, hpg.f188, hpg.f35, hpg.f36, hpg.f37, hpg.f178, hpg.f180, hpg.f1, hpg.f2, hpg.f3, hpg.f4, hpg.f5, hpg.f153, hpg.f154, hpg.f155, hpg.f156, hpg.f157, hpg.f164, hpg.f165, hpg.f166, hpg.f81, hpg.f84, hpg.f85, hpg.f86, hpg.f87, hpg.f137, hpg.f175, hpg.f174, hpg.f191, hpg.f11, hpg.f12, hpg.f13, hpg.f14, hpg.f15, hpg.f16, hpg.f17, hpg.f80, hpg.f138, hpg.f141, hpg.f143, hpg.f145, hpg.f129, hpg.f130, hpg.f132, hpg.f135, hpg.f136, k129, k130, k132, k135, k11, k12, zset_self, k136 hpg.a, k143 hpg.dr, k174 hpg.dr, k191 hpg.dr, hi6]
    refine ⟨hcond.1, ?_⟩
    rw [hcond.2]
    refine ⟨(fun z => by cases z), fun _ => ?_⟩
    clear hcond
    simp (disch := first | omega | (simp (disch := omega) only [forall_eq', Value.category, or_true, true_or, Option.isSome_some, Option.getD_some, true_and, and_true, and_self, forall_const, reduceCtorEq, Bool.false_eq_true, ite_true, ite_false, reduceIte, Nat.reduceLT, Nat.reduceLeDiff, Nat.reduceEqDiff, Nat.reduceAdd, Nat.reduceMul, decide_true, decide_false, Bool.true_and, Bool.and_true, Bool.false_and, Bool.and_false, Bool.or_false, Bool.false_or, not_true_eq_false, not_false_eq_true, Classical.not_not, false_implies, implies_true, decide_eq_true_eq, decide_eq_false_iff_not, Bool.not_eq_true, Bool.not_eq_false, Bool.not_eq_eq_eq_not, Bool.and_eq_true, Bool.or_eq_true, Bool.not_true, Bool.not_false, exists_eq_left, Option.some.injEq, Value.int.injEq, Value.long.injEq, Value.ref.injEq, zofN, znr0, zvpN, nI_clamp, nI_ltI, nI_leI, nI_eq, nI_a1, zN_lt, zN_le, zN_gt, zN_ge, zN_eq, zN_m1, Nat.zero_le, zLE, zi_eq0, zi01b, zi01c, zlast, t2])) only [sSeq, sIf, sSkip, sDecI, sDecL, sDecR, sSetI, sSetL, sInc, sRetI, sRetZ, sRetL, sRetR, sRetV, sScope, sPut, sPutL, sUpd, sSt, sStL, sStU, sStUL, sCpy, sCpyL, sCS, sCV, sSw, zsw, sBrk, xP, xCS, xCV, xNz, xI, xAnd, xOr, xNot, xT, xB, xInc, xPre, xIncL, xEq, eK, eV, eW, eR, eB, eU, eD, eT, eI, eAnd, eOr, eNot, eF, eFL, eFR, eA, eAL, eAR, eN, eCS, eCV, aN, aI, aL, aR, zen, zli, zlj, zlr, zob, rdI, rdL, rdR, zfk, List.cons_append, List.nil_append, List.set_cons_zero, List.set_cons_succ, List.take_succ_cons, List.take_zero, List.length_cons, List.length_nil, List.getElem?_cons_zero, List.getElem?_cons_succ, forall_eq', Value.category, or_true, true_or, Option.isSome_some, Option.getD_some, true_and, and_true, and_self, forall_const, reduceCtorEq, Bool.false_eq_true, ite_true, ite_false, reduceIte, Nat.reduceLT, Nat.reduceLeDiff, Nat.reduceEqDiff, Nat.reduceAdd, Nat.reduceMul, decide_true, decide_false, Bool.true_and, Bool.and_true, Bool.false_and, Bool.and_false, Bool.or_false, Bool.false_or, not_true_eq_false, not_false_eq_true, Classical.not_not, false_implies, implies_true, decide_eq_true_eq, decide_eq_false_iff_not, Bool.not_eq_true, Bool.not_eq_false, Bool.not_eq_eq_eq_not, Bool.and_eq_true, Bool.or_eq_true, Bool.not_true, Bool.not_false, exists_eq_left, Option.some.injEq, Value.int.injEq, Value.long.injEq, Value.ref.injEq, zFx0, zFx1, zFx2, zFx3, zFx4, zFx5, zFx6, zFx7, zFx8, zFx9, zFx10, zFx11, zFx12, zFx13, zFx14, zFm0, zFm1, zFm2, zFm3, zFm4, zofN, znr0, zvpN, nI_clamp, nI_ltI, nI_leI, nI_eq, nI_a1, zN_lt, zN_le, zN_gt, zN_ge, zN_eq, zN_m1, Nat.zero_le, zLE, zi_eq0, zi01b, zi01c, zlast, hpg.f56, hpg.f57, hpg.f134, hpg.f133, hpg.f20, hpg.f10, hpg.f88, hpg.f45, hpg.f78, hpg.f53, hpg.f32, hpg.f74, hpg.f61, hpg.f34, hpg.f127, hpg.f211, hpg.f73, hpg.f72, hpg.f209, hpg.f216, hpg.f29, hpg.f31, hpg.f30, hpg.f28, hpg.f27, hpg.f204, hpg.f205, hpg.f76, hpg.f77, hpg.f217, hpg.f187, hpg.f43, hpg.f42, hpg.f44, hpg.f186, hpg.f188, hpg.f35, hpg.f36, hpg.f37, hpg.f178, hpg.f180, hpg.f1, hpg.f2, hpg.f3, hpg.f4, hpg.f5, hpg.f153, hpg.f154, hpg.f155, hpg.f156, hpg.f157, hpg.f164, hpg.f165, hpg.f166, hpg.f81, hpg.f84, hpg.f85, hpg.f86, hpg.f87, hpg.f137, hpg.f175, hpg.f174, hpg.f191, hpg.f11, hpg.f12, hpg.f13, hpg.f14, hpg.f15, hpg.f16, hpg.f17, hpg.f80, hpg.f138, hpg.f141, hpg.f143, hpg.f145, hpg.f129, hpg.f130, hpg.f132, hpg.f135, hpg.f136, k129, k130, k132, k135, k11, k12, zset_self, k136 hpg.a, k143 hpg.dr, k174 hpg.dr, k191 hpg.dr, t2]
    refine ⟨fun v hv => by simp at hv; subst hv; rfl, fun i0 => ?_, fun i0 => ?_⟩
    · have hRs := good_stop hn hG (by
        by_cases hk2 : k < n
        · right
          obtain ⟨s1, s2⟩ := hsf (by omega)
          have y1 := nx_f s1 hk2
          have y2 := nx_f s2 hk2
          rw [if_pos i0]
          exact stp_none (by omega) (by omega) (by omega) (by omega) (by omega) (by omega)
        · left; have := hP.2.1; omega)
      rw [i0] at hRs
      exact h _ (qx_f hRs (Or.inl (by decide)) t1 h1n k0 t3)
    rw [if_neg i0] at hG
    refine k58 (d := d + 1) (c := 61) hpg hP rfl (by decide) ?_
    cases b61 : nxN L n k 61 61 with
    | false =>
      rw [if_neg (by decide)]
      have hRs := good_stop hn hG (by
        by_cases hk2 : k < n
        · right
          have y1 := nx_f b61 hk2
          by_cases i6 : i < 6
          · obtain ⟨s1, s2⟩ := hsf i6
            have y2 := nx_f s1 hk2
            have y3 := nx_f s2 hk2
            exact stp_none (by omega) (by omega) (by omega) (by omega) (by omega) (by omega)
          · exact stp_none (by omega) (by omega) (by omega) (by omega) (by omega) (by omega)
        · left; have := hP.2.1; omega)
      exact ⟨0, rfl, fun _ => h _ (qx_f hRs (Or.inl (by decide)) t1 h1n k0 t3), fun z => absurd rfl z⟩
    | true =>
      rw [if_pos rfl]
      obtain ⟨c1, c2, c3⟩ := nx_t b61
      have e61 : L k = 61 := by omega
      have hG2 := good_step hn hG c1 (show stp (L k) (2, i, 0, 0, false, 0, ss, pp, fun _ => 0) = some (3, i, 0, 0, false, 0, ss, pp, fun _ => 0) by rw [e61]; simp [stp])
      have hP2 := pg_at hP (show k + 1 ≤ n from c1)
      refine ⟨1, rfl, fun z => absurd z (by decide), fun _ => ?_⟩
      refine k60 hpg hP2 (fun ng k1 j hng hk1 hj4 hjn hall hst => ?_)
      have hNum := num_good hn hG2 hng hk1 hj4 hall
      by_cases j0 : j = 0
      · subst j0
        rw [if_pos rfl] at hNum
        have hd := hst.resolve_left (by omega)
        rw [Nat.add_zero] at hd hNum hjn ⊢
        have hRs := good_stop hn hNum (by
          by_cases hk2 : k1 < n
          · right
            have y1 := nx_f hd hk2
            cases ng with
            | true =>
              show stp (L k1) (4, i, 0, 0, true, 0, ss, pp, _) = none
              exact stp_none (by omega) (by omega) (by omega) (by omega) (by omega) (by omega)
            | false =>
              rw [if_neg (by decide)] at hk1
              have y2 := nx_f hng.symm (by omega)
              rw [← hk1] at y2
              show stp (L k1) (3, i, 0, 0, false, 0, ss, pp, _) = none
              exact stp_none (by omega) (by omega) (by omega) (by omega) (by omega) (by omega)
          · left; omega)
        refine ⟨0, rfl, fun _ => h _ (qx_f hRs (Or.inl (by cases ng <;> decide)) (fun a a1 a2 a3 => by rw [zs_ne a1, zs_ne a1, zs_ne a1]; exact t1 a a1 a2 a3) (by simp [zs_at, h1n]) (by simp [zs_at]) (by simp [zs_at, t3])), fun z => absurd rfl z⟩
      rw [if_neg j0] at hNum
      have jp : 0 < j := by omega
      refine ⟨zi (decide (0 < j)), rfl, fun z => by rw [decide_eq_true jp] at z; exact absurd z (by decide), fun _ => ?_⟩
      obtain ⟨v1, hv1⟩ : ∃ v1, v1 = sgV ng (vlN L k1 j) := ⟨_, rfl⟩
      rw [← hv1] at hNum ⊢
      obtain ⟨k2, hk2⟩ : ∃ k2, k2 = k1 + j := ⟨_, rfl⟩
      rw [← hk2] at hNum hst hjn ⊢
      -- the memory behind the first number
      obtain ⟨μ4, hμ4⟩ : ∃ μ4, μ4 = zset (zset (zset (zset μ1 16 7 (nI (k + 1))) 16 7 (nI k2)) 16 9 v1) 16 5 ((zset (zset (zset μ1 16 7 (nI (k + 1))) 16 7 (nI k2)) 16 9 v1).1 16 9) := ⟨_, rfl⟩
      rw [← hμ4]
      have m_o : ∀ a, a ≠ 16 → μ4.1 a = μ1.1 a := fun a ha => by rw [hμ4, zs_ne ha, zs_ne ha, zs_ne ha, zs_ne ha]
      have m_1 : μ4.1 16 1 = nI n := by rw [hμ4]; simp [zs_at, h1n]
      have m_7 : μ4.1 16 7 = nI k2 := by rw [hμ4]; simp [zs_at]
      have m_8 : μ4.1 16 8 = 0 := by rw [hμ4]; simp [zs_at, t3]
      have m_4 : μ4.1 16 4 = nI i := by rw [hμ4]; simp [zs_at, t2]
      have m_5 : μ4.1 16 5 = v1 := by rw [hμ4]; simp [zs_at]
      clear hμ4
      have hP4 : PgX L n k2 μ4 := ⟨hn, hjn, m_1, m_7, fun j hj => by rw [m_o 17 (by omega)]; exact hP.2.2.2.2 j hj⟩
      refine k58 (d := d + 1) (c := 126) hpg hP4 rfl (by decide) ?_
      cases b126 : nxN L n k2 126 126 with
      | false =>
        rw [if_neg (by decide)]
        have hRs := good_stop hn hNum (by
          by_cases hk2n : k2 < n
          · right
            have y1 := nx_f b126 hk2n
            rcases hst with z | z
            · exact stp_none (by omega) (by omega) (by omega) (by omega) (by omega) (by omega)
            · have y2 := nx_f z hk2n
              exact stp_none (by omega) (by omega) (by omega) (by omega) (by omega) (by omega)
          · left; omega)
        exact ⟨0, rfl, fun _ => h _ (qx_f hRs (Or.inr (by decide)) (fun a a1 a2 a3 => by rw [m_o a a1]; exact t1 a a1 a2 a3) m_1 m_7 m_8), fun z => absurd rfl z⟩
      | true =>
        rw [if_pos rfl]
        obtain ⟨c1, c2, c3⟩ := nx_t b126
        have e126 : L k2 = 126 := by omega
        have hG5 := good_step hn hNum c1 (show stp (L k2) (5, i, 0, j, ng, vlN L k1 j, ss, pp, upd (fun _ => 0) 0 v1) = some (3, i, 1, 0, false, 0, ss, pp, upd (fun _ => 0) 0 v1) by rw [e126]; simp [stp])
        have hP5 := pg_at hP4 (show k2 + 1 ≤ n from c1)
        refine ⟨1, rfl, fun z => absurd z (by decide), fun _ => ?_⟩
        refine k60 hpg hP5 (fun ng' k1' j' hng' hk1' hj4' hjn' hall' hst' => ?_)
        have hNum' := num_good hn hG5 hng' hk1' hj4' hall'
        by_cases j0' : j' = 0
        · subst j0'
          rw [if_pos rfl] at hNum'
          have hd := hst'.resolve_left (by omega)
          rw [Nat.add_zero] at hd hNum' hjn' ⊢
          have hRs := good_stop hn hNum' (by
            by_cases hk2 : k1' < n
            · right
              have y1 := nx_f hd hk2
              cases ng' with
              | true =>
                show stp (L k1') (4, i, 1, 0, true, 0, ss, pp, _) = none
                exact stp_none (by omega) (by omega) (by omega) (by omega) (by omega) (by omega)
              | false =>
                rw [if_neg (by decide)] at hk1'
                have y2 := nx_f hng'.symm (by omega)
                rw [← hk1'] at y2
                show stp (L k1') (3, i, 1, 0, false, 0, ss, pp, _) = none
                exact stp_none (by omega) (by omega) (by omega) (by omega) (by omega) (by omega)
            · left; omega)
          refine ⟨0, rfl, fun _ => h _ (qx_f hRs (Or.inl (by cases ng' <;> decide)) (fun a a1 a2 a3 => by rw [zs_ne a1, zs_ne a1, zs_ne a1, m_o a a1]; exact t1 a a1 a2 a3) (by simp [zs_at, m_1]) (by simp [zs_at]) (by simp [zs_at, m_8])), fun z => absurd rfl z⟩
        rw [if_neg j0'] at hNum'
        have jp' : 0 < j' := by omega
        refine ⟨zi (decide (0 < j')), rfl, fun z => by rw [decide_eq_true jp'] at z; exact absurd z (by decide), fun _ => ?_⟩
        obtain ⟨v2, hv2⟩ : ∃ v2, v2 = sgV ng' (vlN L k1' j') := ⟨_, rfl⟩
        rw [← hv2] at hNum' ⊢
        obtain ⟨k3, hk3⟩ : ∃ k3, k3 = k1' + j' := ⟨_, rfl⟩
        rw [← hk3] at hNum' hst' hjn' ⊢
        have hRs := good_stop hn hNum' (by
          by_cases hk3n : k3 < n
          · right
            rcases hst' with z | z
            · simp [stp, z]
            · have y2 := nx_f z hk3n
              exact stp_none (by omega) (by omega) (by omega) (by omega) (by omega) (by omega)
          · left; omega)
        have hw : whoR n R = decide (k3 = n) := by
          rw [hRs]
          unfold whoR
          simp
        have hq : (nI k3 = nI n) = (k3 = n) := propext (nI_eq (by omega) (by omega))
        refine h _ ⟨fun a a1 a2 a3 => by rw [zs_ne a1, zs_ne a1, zs_ne a1, zs_ne a1, zs_ne a1, m_o a a1]; exact t1 a a1 a2 a3, by simp [zs_at, m_1], by rw [hRs]; simp [zs_at], by rw [hw]; simp [zs_at, m_1, hq], fun _ => ?_⟩
        rw [hRs]
        refine ⟨by simp [zs_at, m_4], by simp [zs_at, m_5, upd], by simp [zs_at, upd], fun t ht => ?_⟩
        have := t4 t ht
        rw [zs_ne (by omega), zs_ne (by omega), zs_ne (by omega), zs_ne (by omega), zs_ne (by omega), zs_ne (by omega), zs_ne (by omega), zs_ne (by omega), zs_ne (by omega), zs_ne (by omega), m_o 18 (by omega), m_o 19 (by omega)]
        exact this
end KE4
