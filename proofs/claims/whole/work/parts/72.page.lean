/-! LAYER B: fault, chain: how a text is read, as the class does it -/
def nxN (L : Nat → Nat) (n k a b : Nat) : Bool := decide (k < n) && (decide (a ≤ L k) && decide (L k ≤ b))
def nxX (μ : ZM) (a b : Int32) : Bool := (decide (μ.1 16 7 < μ.1 16 1) && decide (μ.1 16 7 < 40)) && (decide (a ≤ μ.1 17 (μ.1 16 7).toNatClampNeg) && decide (μ.1 17 (μ.1 16 7).toNatClampNeg ≤ b))
def Fpg (F : ZFt) : Prop := Fle F ∧ (∀ a b μ, F 56 [.ref 16, .int a, .int b] μ = .int (zi (nxX μ a b))) ∧ (∀  μ, F 57 [.ref 16] μ = .int (zi (nxX μ 43 43 || nxX μ 45 45)))
theorem Fpg.f56 {F : ZFt} (h : Fpg F) : ∀ a b μ, F 56 [.ref 16, .int a, .int b] μ = .int (zi (nxX μ a b)) := h.2.1
theorem Fpg.f57 {F : ZFt} (h : Fpg F) : ∀  μ, F 57 [.ref 16] μ = .int (zi (nxX μ 43 43 || nxX μ 45 45)) := h.2.2
theorem Fpg.le {F : ZFt} (h : Fpg F) : Fle F := h.1
def Fpg.f134 {F : ZFt} (h : Fpg F) := (h.1).f134
theorem Fpg.di {F : ZFt} (h : Fpg F) : Fdi F := h.1.1
def Fpg.f133 {F : ZFt} (h : Fpg F) := (h.1.1).f133
def Fpg.f20 {F : ZFt} (h : Fpg F) := (h.1.1).f20
def Fpg.f10 {F : ZFt} (h : Fpg F) := (h.1.1).f10
def Fpg.f88 {F : ZFt} (h : Fpg F) := (h.1.1).f88
def Fpg.f45 {F : ZFt} (h : Fpg F) := (h.1.1).f45
def Fpg.f78 {F : ZFt} (h : Fpg F) := (h.1.1).f78
def Fpg.f53 {F : ZFt} (h : Fpg F) := (h.1.1).f53
def Fpg.f32 {F : ZFt} (h : Fpg F) := (h.1.1).f32
def Fpg.f74 {F : ZFt} (h : Fpg F) := (h.1.1).f74
def Fpg.f61 {F : ZFt} (h : Fpg F) := (h.1.1).f61
theorem Fpg.co {F : ZFt} (h : Fpg F) : Fco F := h.1.1.1
def Fpg.f34 {F : ZFt} (h : Fpg F) := (h.1.1.1).f34
def Fpg.f127 {F : ZFt} (h : Fpg F) := (h.1.1.1).f127
def Fpg.f211 {F : ZFt} (h : Fpg F) := (h.1.1.1).f211
theorem Fpg.df {F : ZFt} (h : Fpg F) : Fdf F := h.1.1.1.1
def Fpg.f73 {F : ZFt} (h : Fpg F) := (h.1.1.1.1).f73
def Fpg.f72 {F : ZFt} (h : Fpg F) := (h.1.1.1.1).f72
def Fpg.f209 {F : ZFt} (h : Fpg F) := (h.1.1.1.1).f209
theorem Fpg.en {F : ZFt} (h : Fpg F) : Fen F := h.1.1.1.1.1
def Fpg.f216 {F : ZFt} (h : Fpg F) := (h.1.1.1.1.1).f216
def Fpg.f29 {F : ZFt} (h : Fpg F) := (h.1.1.1.1.1).f29
def Fpg.f31 {F : ZFt} (h : Fpg F) := (h.1.1.1.1.1).f31
def Fpg.f30 {F : ZFt} (h : Fpg F) := (h.1.1.1.1.1).f30
def Fpg.f28 {F : ZFt} (h : Fpg F) := (h.1.1.1.1.1).f28
def Fpg.f27 {F : ZFt} (h : Fpg F) := (h.1.1.1.1.1).f27
def Fpg.f204 {F : ZFt} (h : Fpg F) := (h.1.1.1.1.1).f204
def Fpg.f205 {F : ZFt} (h : Fpg F) := (h.1.1.1.1.1).f205
theorem Fpg.fo {F : ZFt} (h : Fpg F) : Ffo F := h.1.1.1.1.1.1
def Fpg.f76 {F : ZFt} (h : Fpg F) := (h.1.1.1.1.1.1).f76
def Fpg.f77 {F : ZFt} (h : Fpg F) := (h.1.1.1.1.1.1).f77
theorem Fpg.bl {F : ZFt} (h : Fpg F) : Fbl F := h.1.1.1.1.1.1.1
def Fpg.f217 {F : ZFt} (h : Fpg F) := (h.1.1.1.1.1.1.1).f217
def Fpg.f187 {F : ZFt} (h : Fpg F) := (h.1.1.1.1.1.1.1).f187
def Fpg.f43 {F : ZFt} (h : Fpg F) := (h.1.1.1.1.1.1.1).f43
def Fpg.f42 {F : ZFt} (h : Fpg F) := (h.1.1.1.1.1.1.1).f42
def Fpg.f44 {F : ZFt} (h : Fpg F) := (h.1.1.1.1.1.1.1).f44
def Fpg.f186 {F : ZFt} (h : Fpg F) := (h.1.1.1.1.1.1.1).f186
def Fpg.f188 {F : ZFt} (h : Fpg F) := (h.1.1.1.1.1.1.1).f188
theorem Fpg.ri {F : ZFt} (h : Fpg F) : Fri F := h.1.1.1.1.1.1.1.1
def Fpg.f35 {F : ZFt} (h : Fpg F) := (h.1.1.1.1.1.1.1.1).f35
def Fpg.f36 {F : ZFt} (h : Fpg F) := (h.1.1.1.1.1.1.1.1).f36
def Fpg.f37 {F : ZFt} (h : Fpg F) := (h.1.1.1.1.1.1.1.1).f37
def Fpg.f178 {F : ZFt} (h : Fpg F) := (h.1.1.1.1.1.1.1.1).f178
def Fpg.f180 {F : ZFt} (h : Fpg F) := (h.1.1.1.1.1.1.1.1).f180
theorem Fpg.ch {F : ZFt} (h : Fpg F) : Fch F := h.1.1.1.1.1.1.1.1.1
def Fpg.f1 {F : ZFt} (h : Fpg F) := (h.1.1.1.1.1.1.1.1.1).f1
def Fpg.f2 {F : ZFt} (h : Fpg F) := (h.1.1.1.1.1.1.1.1.1).f2
def Fpg.f3 {F : ZFt} (h : Fpg F) := (h.1.1.1.1.1.1.1.1.1).f3
def Fpg.f4 {F : ZFt} (h : Fpg F) := (h.1.1.1.1.1.1.1.1.1).f4
def Fpg.f5 {F : ZFt} (h : Fpg F) := (h.1.1.1.1.1.1.1.1.1).f5
def Fpg.f153 {F : ZFt} (h : Fpg F) := (h.1.1.1.1.1.1.1.1.1).f153
def Fpg.f154 {F : ZFt} (h : Fpg F) := (h.1.1.1.1.1.1.1.1.1).f154
def Fpg.f155 {F : ZFt} (h : Fpg F) := (h.1.1.1.1.1.1.1.1.1).f155
def Fpg.f156 {F : ZFt} (h : Fpg F) := (h.1.1.1.1.1.1.1.1.1).f156
def Fpg.f157 {F : ZFt} (h : Fpg F) := (h.1.1.1.1.1.1.1.1.1).f157
theorem Fpg.kn {F : ZFt} (h : Fpg F) : Fkn F := h.1.1.1.1.1.1.1.1.1.1
def Fpg.f164 {F : ZFt} (h : Fpg F) := (h.1.1.1.1.1.1.1.1.1.1).f164
def Fpg.f165 {F : ZFt} (h : Fpg F) := (h.1.1.1.1.1.1.1.1.1.1).f165
def Fpg.f166 {F : ZFt} (h : Fpg F) := (h.1.1.1.1.1.1.1.1.1.1).f166
def Fpg.f81 {F : ZFt} (h : Fpg F) := (h.1.1.1.1.1.1.1.1.1.1).f81
def Fpg.f84 {F : ZFt} (h : Fpg F) := (h.1.1.1.1.1.1.1.1.1.1).f84
def Fpg.f85 {F : ZFt} (h : Fpg F) := (h.1.1.1.1.1.1.1.1.1.1).f85
def Fpg.f86 {F : ZFt} (h : Fpg F) := (h.1.1.1.1.1.1.1.1.1.1).f86
def Fpg.f87 {F : ZFt} (h : Fpg F) := (h.1.1.1.1.1.1.1.1.1.1).f87
theorem Fpg.ma {F : ZFt} (h : Fpg F) : Fma F := h.1.1.1.1.1.1.1.1.1.1.1
def Fpg.f137 {F : ZFt} (h : Fpg F) := (h.1.1.1.1.1.1.1.1.1.1.1).f137
def Fpg.f175 {F : ZFt} (h : Fpg F) := (h.1.1.1.1.1.1.1.1.1.1.1).f175
theorem Fpg.sm {F : ZFt} (h : Fpg F) : Fsm F := h.1.1.1.1.1.1.1.1.1.1.1.1
def Fpg.f174 {F : ZFt} (h : Fpg F) := (h.1.1.1.1.1.1.1.1.1.1.1.1).f174
def Fpg.f191 {F : ZFt} (h : Fpg F) := (h.1.1.1.1.1.1.1.1.1.1.1.1).f191
theorem Fpg.dr {F : ZFt} (h : Fpg F) : Fdr F := h.1.1.1.1.1.1.1.1.1.1.1.1.1
def Fpg.f11 {F : ZFt} (h : Fpg F) := (h.1.1.1.1.1.1.1.1.1.1.1.1.1).f11
def Fpg.f12 {F : ZFt} (h : Fpg F) := (h.1.1.1.1.1.1.1.1.1.1.1.1.1).f12
def Fpg.f13 {F : ZFt} (h : Fpg F) := (h.1.1.1.1.1.1.1.1.1.1.1.1.1).f13
def Fpg.f14 {F : ZFt} (h : Fpg F) := (h.1.1.1.1.1.1.1.1.1.1.1.1.1).f14
def Fpg.f15 {F : ZFt} (h : Fpg F) := (h.1.1.1.1.1.1.1.1.1.1.1.1.1).f15
def Fpg.f16 {F : ZFt} (h : Fpg F) := (h.1.1.1.1.1.1.1.1.1.1.1.1.1).f16
def Fpg.f17 {F : ZFt} (h : Fpg F) := (h.1.1.1.1.1.1.1.1.1.1.1.1.1).f17
def Fpg.f80 {F : ZFt} (h : Fpg F) := (h.1.1.1.1.1.1.1.1.1.1.1.1.1).f80
def Fpg.f138 {F : ZFt} (h : Fpg F) := (h.1.1.1.1.1.1.1.1.1.1.1.1.1).f138
def Fpg.f141 {F : ZFt} (h : Fpg F) := (h.1.1.1.1.1.1.1.1.1.1.1.1.1).f141
def Fpg.f143 {F : ZFt} (h : Fpg F) := (h.1.1.1.1.1.1.1.1.1.1.1.1.1).f143
def Fpg.f145 {F : ZFt} (h : Fpg F) := (h.1.1.1.1.1.1.1.1.1.1.1.1.1).f145
theorem Fpg.a {F : ZFt} (h : Fpg F) : Fa F := h.1.1.1.1.1.1.1.1.1.1.1.1.1.a
def Fpg.f129 {F : ZFt} (h : Fpg F) := (h.1.1.1.1.1.1.1.1.1.1.1.1.1.a).f129
def Fpg.f130 {F : ZFt} (h : Fpg F) := (h.1.1.1.1.1.1.1.1.1.1.1.1.1.a).f130
def Fpg.f132 {F : ZFt} (h : Fpg F) := (h.1.1.1.1.1.1.1.1.1.1.1.1.1.a).f132
def Fpg.f135 {F : ZFt} (h : Fpg F) := (h.1.1.1.1.1.1.1.1.1.1.1.1.1.a).f135
def Fpg.f136 {F : ZFt} (h : Fpg F) := (h.1.1.1.1.1.1.1.1.1.1.1.1.1.a).f136
/-- the page is L of n letters, read to k -/
def PgX (L : Nat → Nat) (n k : Nat) (μ : ZM) : Prop := n ≤ 40 ∧ k ≤ n ∧ μ.1 16 1 = nI n ∧ μ.1 16 7 = nI k ∧ ∀ j, j < n → μ.1 17 j = nI (L j) ∧ 1 ≤ L j ∧ L j ≤ 126
def vlN (L : Nat → Nat) (k : Nat) : Nat → Nat
  | 0 => 0
  | j + 1 => 10 * vlN L k j + (L (k + j) - 48)
theorem nx_eq {L : Nat → Nat} {n k a b : Nat} {μ : ZM} (h : PgX L n k μ) (ha : a ≤ 126) (hb : b ≤ 126) : nxX μ (nI a) (nI b) = nxN L n k a b := by
  obtain ⟨h1, h2, h3, h4, h5⟩ := h
  unfold nxX nxN
  rw [h3, h4, nI_clamp (by omega)]
  by_cases hk : k < n
  · obtain ⟨e1, e2, e3⟩ := h5 k hk
    have q1 : (nI k < nI n) = True := eq_true ((nI_ltI (by omega) (by omega)).mpr hk)
    have q2 : (nI k < (40 : Int32)) = True := eq_true ((nI_ltI (v := 40) (by omega) (by omega)).mpr (by omega))
    have q3 : (nI a ≤ nI (L k)) = (a ≤ L k) := propext (nI_leI (by omega) (by omega))
    have q4 : (nI (L k) ≤ nI b) = (L k ≤ b) := propext (nI_leI (by omega) (by omega))
    simp only [e1, q1, q2, q3, q4, hk]
    simp
  · have q1 : ¬ (nI k < nI n) := fun z => hk ((nI_ltI (by omega) (by omega)).mp z)
    rw [decide_eq_false q1, decide_eq_false hk]
    simp
theorem nx_t {L : Nat → Nat} {n k a b : Nat} (h : nxN L n k a b = true) : k < n ∧ a ≤ L k ∧ L k ≤ b := by
  unfold nxN at h
  simpa using h
theorem nx_f {L : Nat → Nat} {n k a b : Nat} (h : nxN L n k a b = false) : k < n → ¬ (a ≤ L k ∧ L k ≤ b) := by
  unfold nxN at h
  intro hk z
  simp [hk, z] at h
section KE3
variable {F : ZFt} {d : Nat} {μ ν : ZM} {P : Option Value → ZM → Prop} {n k : Nat} {L : Nat → Nat}
theorem k56 {a b : Int32} (hpg : Fpg F) (hP : PgX L n k μ) (h : P (some (.int (zi (nxX μ a b)))) μ) : KK Zx F (d + 2) 56 [.ref 16, .int a, .int b] μ P := by
  obtain ⟨h1, h2, h3, h4, h5⟩ := hP
  unfold nxX at h
  rw [h3, h4, nI_clamp (by omega)] at h
  by_cases hk : k < n
  · have h40 : k < 40 := by omega
    have q1 : (nI k < nI n) = True := eq_true ((nI_ltI (by omega) (by omega)).mpr hk)
    have q2 : (nI k < (40 : Int32)) = True := eq_true ((nI_ltI (v := 40) (by omega) (by omega)).mpr (by omega))
    simp only [q1, q2, decide_true, Bool.true_and] at h
    refine KK_in bd_56 rfl (Nat.le_of_ble_eq_true rfl) ?_; simp (disch := first | omega | (simp (disch := omega) only [forall_eq', Value.category, or_true, true_or, Option.isSome_some, Option.getD_some, true_and, and_true, and_self, forall_const, reduceCtorEq, Bool.false_eq_true, ite_true, ite_false, reduceIte, Nat.reduceLT, Nat.reduceLeDiff, Nat.reduceEqDiff, Nat.reduceAdd, Nat.reduceMul, decide_true, decide_false, Bool.true_and, Bool.and_true, Bool.false_and, Bool.and_false, Bool.or_false, Bool.false_or, not_true_eq_false, not_false_eq_true, Classical.not_not, false_implies, implies_true, decide_eq_true_eq, decide_eq_false_iff_not, Bool.not_eq_true, Bool.not_eq_false, Bool.not_eq_eq_eq_not, Bool.and_eq_true, Bool.or_eq_true, Bool.not_true, Bool.not_false, exists_eq_left, Option.some.injEq, Value.int.injEq, Value.long.injEq, Value.ref.injEq, zofN, znr0, zvpN, nI_clamp, nI_ltI, nI_leI, nI_eq, nI_a1, zN_lt, zN_le, zN_gt, zN_ge, zN_eq, zN_m1, Nat.zero_le, zLE, zi_eq0, zi01b, zi01c, zlast, h3, h4, hk, h40, zi01])) only [bd_56, sSeq, sIf, sSkip, sDecI, sDecL, sDecR, sSetI, sSetL, sInc, sRetI, sRetZ, sRetL, sRetR, sRetV, sScope, sPut, sPutL, sUpd, sSt, sStL, sStU, sStUL, sCpy, sCpyL, sCS, sCV, sSw, zsw, sBrk, xP, xCS, xCV, xNz, xI, xAnd, xOr, xNot, xT, xB, xInc, xPre, xIncL, xEq, eK, eV, eW, eR, eB, eU, eD, eT, eI, eAnd, eOr, eNot, eF, eFL, eFR, eA, eAL, eAR, eN, eCS, eCV, aN, aI, aL, aR, zen, zli, zlj, zlr, zob, rdI, rdL, rdR, zfk, List.cons_append, List.nil_append, List.set_cons_zero, List.set_cons_succ, List.take_succ_cons, List.take_zero, List.length_cons, List.length_nil, List.getElem?_cons_zero, List.getElem?_cons_succ, forall_eq', Value.category, or_true, true_or, Option.isSome_some, Option.getD_some, true_and, and_true, and_self, forall_const, reduceCtorEq, Bool.false_eq_true, ite_true, ite_false, reduceIte, Nat.reduceLT, Nat.reduceLeDiff, Nat.reduceEqDiff, Nat.reduceAdd, Nat.reduceMul, decide_true, decide_false, Bool.true_and, Bool.and_true, Bool.false_and, Bool.and_false, Bool.or_false, Bool.false_or, not_true_eq_false, not_false_eq_true, Classical.not_not, false_implies, implies_true, decide_eq_true_eq, decide_eq_false_iff_not, Bool.not_eq_true, Bool.not_eq_false, Bool.not_eq_eq_eq_not, Bool.and_eq_true, Bool.or_eq_true, Bool.not_true, Bool.not_false, exists_eq_left, Option.some.injEq, Value.int.injEq, Value.long.injEq, Value.ref.injEq, zFx0, zFx1, zFx2, zFx3, zFx4, zFx5, zFx6, zFx7, zFx8, zFx9, zFx10, zFx11, zFx12, zFx13, zFx14, zFm0, zFm1, zFm2, zFm3, zFm4, zofN, znr0, zvpN, nI_clamp, nI_ltI, nI_leI, nI_eq, nI_a1, zN_lt, zN_le, zN_gt, zN_ge, zN_eq, zN_m1, Nat.zero_le, zLE, zi_eq0, zi01b, zi01c, zlast, hpg.f56, hpg.f57, hpg.f134, hpg.f133, hpg.f20, hpg.f10, hpg.f88, hpg.f45, hpg.f78, hpg.f53, hpg.f32, hpg.f74, hpg.f61, hpg.f34, hpg.f127, hpg.f211, hpg.f73, hpg.f72, hpg.f209, hpg.f216, hpg.f29, hpg.f31, hpg.f30, hpg.f28, hpg.f27, hpg.f204, hpg.f205, hpg.f76, hpg.f77, hpg.f217, hpg.f187, hpg.f43, hpg.f42, hpg.f44, hpg.f186, hpg.f188, hpg.f35, hpg.f36, hpg.f37, hpg.f178, hpg.f180, hpg.f1, hpg.f2, hpg.f3, hpg.f4, hpg.f5, hpg.f153, hpg.f154, hpg.f155, hpg.f156, hpg.f157, hpg.f164, hpg.f165, hpg.f166, hpg.f81, hpg.f84, hpg.f85, hpg.f86, hpg.f87, hpg.f137, hpg.f175, hpg.f174, hpg.f191, hpg.f11, hpg.f12, hpg.f13, hpg.f14, hpg.f15, hpg.f16, hpg.f17, hpg.f80, hpg.f138, hpg.f141, hpg.f143, hpg.f145, hpg.f129, hpg.f130, hpg.f132, hpg.f135, hpg.f136, k129, k130, k132, k135, k11, k12, zset_self, k136 hpg.a, k143 hpg.dr, k174 hpg.dr, k191 hpg.dr, h3, h4, hk, h40, zi01]
    fail
  · have q1 : ¬ (nI k < nI n) := fun z => hk ((nI_ltI (by omega) (by omega)).mp z)
    rw [decide_eq_false q1] at h
    simp only [Bool.false_and, zi_f] at h
    refine KK_in bd_56 rfl (Nat.le_of_ble_eq_true rfl) ?_; simp (disch := first | omega | (simp (disch := omega) only [forall_eq', Value.category, or_true, true_or, Option.isSome_some, Option.getD_some, true_and, and_true, and_self, forall_const, reduceCtorEq, Bool.false_eq_true, ite_true, ite_false, reduceIte, Nat.reduceLT, Nat.reduceLeDiff, Nat.reduceEqDiff, Nat.reduceAdd, Nat.reduceMul, decide_true, decide_false, Bool.true_and, Bool.and_true, Bool.false_and, Bool.and_false, Bool.or_false, Bool.false_or, not_true_eq_false, not_false_eq_true, Classical.not_not, false_implies, implies_true, decide_eq_true_eq, decide_eq_false_iff_not, Bool.not_eq_true, Bool.not_eq_false, Bool.not_eq_eq_eq_not, Bool.and_eq_true, Bool.or_eq_true, Bool.not_true, Bool.not_false, exists_eq_left, Option.some.injEq, Value.int.injEq, Value.long.injEq, Value.ref.injEq, zofN, znr0, zvpN, nI_clamp, nI_ltI, nI_leI, nI_eq, nI_a1, zN_lt, zN_le, zN_gt, zN_ge, zN_eq, zN_m1, Nat.zero_le, zLE, zi_eq0, zi01b, zi01c, zlast, h3, h4, hk, zi01])) only [bd_56, sSeq, sIf, sSkip, sDecI, sDecL, sDecR, sSetI, sSetL, sInc, sRetI, sRetZ, sRetL, sRetR, sRetV, sScope, sPut, sPutL, sUpd, sSt, sStL, sStU, sStUL, sCpy, sCpyL, sCS, sCV, sSw, zsw, sBrk, xP, xCS, xCV, xNz, xI, xAnd, xOr, xNot, xT, xB, xInc, xPre, xIncL, xEq, eK, eV, eW, eR, eB, eU, eD, eT, eI, eAnd, eOr, eNot, eF, eFL, eFR, eA, eAL, eAR, eN, eCS, eCV, aN, aI, aL, aR, zen, zli, zlj, zlr, zob, rdI, rdL, rdR, zfk, List.cons_append, List.nil_append, List.set_cons_zero, List.set_cons_succ, List.take_succ_cons, List.take_zero, List.length_cons, List.length_nil, List.getElem?_cons_zero, List.getElem?_cons_succ, forall_eq', Value.category, or_true, true_or, Option.isSome_some, Option.getD_some, true_and, and_true, and_self, forall_const, reduceCtorEq, Bool.false_eq_true, ite_true, ite_false, reduceIte, Nat.reduceLT, Nat.reduceLeDiff, Nat.reduceEqDiff, Nat.reduceAdd, Nat.reduceMul, decide_true, decide_false, Bool.true_and, Bool.and_true, Bool.false_and, Bool.and_false, Bool.or_false, Bool.false_or, not_true_eq_false, not_false_eq_true, Classical.not_not, false_implies, implies_true, decide_eq_true_eq, decide_eq_false_iff_not, Bool.not_eq_true, Bool.not_eq_false, Bool.not_eq_eq_eq_not, Bool.and_eq_true, Bool.or_eq_true, Bool.not_true, Bool.not_false, exists_eq_left, Option.some.injEq, Value.int.injEq, Value.long.injEq, Value.ref.injEq, zFx0, zFx1, zFx2, zFx3, zFx4, zFx5, zFx6, zFx7, zFx8, zFx9, zFx10, zFx11, zFx12, zFx13, zFx14, zFm0, zFm1, zFm2, zFm3, zFm4, zofN, znr0, zvpN, nI_clamp, nI_ltI, nI_leI, nI_eq, nI_a1, zN_lt, zN_le, zN_gt, zN_ge, zN_eq, zN_m1, Nat.zero_le, zLE, zi_eq0, zi01b, zi01c, zlast, hpg.f56, hpg.f57, hpg.f134, hpg.f133, hpg.f20, hpg.f10, hpg.f88, hpg.f45, hpg.f78, hpg.f53, hpg.f32, hpg.f74, hpg.f61, hpg.f34, hpg.f127, hpg.f211, hpg.f73, hpg.f72, hpg.f209, hpg.f216, hpg.f29, hpg.f31, hpg.f30, hpg.f28, hpg.f27, hpg.f204, hpg.f205, hpg.f76, hpg.f77, hpg.f217, hpg.f187, hpg.f43, hpg.f42, hpg.f44, hpg.f186, hpg.f188, hpg.f35, hpg.f36, hpg.f37, hpg.f178, hpg.f180, hpg.f1, hpg.f2, hpg.f3, hpg.f4, hpg.f5, hpg.f153, hpg.f154, hpg.f155, hpg.f156, hpg.f157, hpg.f164, hpg.f165, hpg.f166, hpg.f81, hpg.f84, hpg.f85, hpg.f86, hpg.f87, hpg.f137, hpg.f175, hpg.f174, hpg.f191, hpg.f11, hpg.f12, hpg.f13, hpg.f14, hpg.f15, hpg.f16, hpg.f17, hpg.f80, hpg.f138, hpg.f141, hpg.f143, hpg.f145, hpg.f129, hpg.f130, hpg.f132, hpg.f135, hpg.f136, k129, k130, k132, k135, k11, k12, zset_self, k136 hpg.a, k143 hpg.dr, k174 hpg.dr, k191 hpg.dr, h3, h4, hk, zi01]
    fail
theorem k57 (hpg : Fpg F) (hP : PgX L n k μ) (h : P (some (.int (zi (nxX μ 43 43 || nxX μ 45 45)))) μ) : KK Zx F (d + 3) 57 [.ref 16] μ P := by
  refine KK_in bd_57 rfl (Nat.le_of_ble_eq_true rfl) ?_; simp (disch := first | omega | (simp (disch := omega) only [forall_eq', Value.category, or_true, true_or, Option.isSome_some, Option.getD_some, true_and, and_true, and_self, forall_const, reduceCtorEq, Bool.false_eq_true, ite_true, ite_false, reduceIte, Nat.reduceLT, Nat.reduceLeDiff, Nat.reduceEqDiff, Nat.reduceAdd, Nat.reduceMul, decide_true, decide_false, Bool.true_and, Bool.and_true, Bool.false_and, Bool.and_false, Bool.or_false, Bool.false_or, not_true_eq_false, not_false_eq_true, Classical.not_not, false_implies, implies_true, decide_eq_true_eq, decide_eq_false_iff_not, Bool.not_eq_true, Bool.not_eq_false, Bool.not_eq_eq_eq_not, Bool.and_eq_true, Bool.or_eq_true, Bool.not_true, Bool.not_false, exists_eq_left, Option.some.injEq, Value.int.injEq, Value.long.injEq, Value.ref.injEq, zofN, znr0, zvpN, nI_clamp, nI_ltI, nI_leI, nI_eq, nI_a1, zN_lt, zN_le, zN_gt, zN_ge, zN_eq, zN_m1, Nat.zero_le, zLE, zi_eq0, zi01b, zi01c, zlast, k56 hpg hP, zi01])) only [bd_57, sSeq, sIf, sSkip, sDecI, sDecL, sDecR, sSetI, sSetL, sInc, sRetI, sRetZ, sRetL, sRetR, sRetV, sScope, sPut, sPutL, sUpd, sSt, sStL, sStU, sStUL, sCpy, sCpyL, sCS, sCV, sSw, zsw, sBrk, xP, xCS, xCV, xNz, xI, xAnd, xOr, xNot, xT, xB, xInc, xPre, xIncL, xEq, eK, eV, eW, eR, eB, eU, eD, eT, eI, eAnd, eOr, eNot, eF, eFL, eFR, eA, eAL, eAR, eN, eCS, eCV, aN, aI, aL, aR, zen, zli, zlj, zlr, zob, rdI, rdL, rdR, zfk, List.cons_append, List.nil_append, List.set_cons_zero, List.set_cons_succ, List.take_succ_cons, List.take_zero, List.length_cons, List.length_nil, List.getElem?_cons_zero, List.getElem?_cons_succ, forall_eq', Value.category, or_true, true_or, Option.isSome_some, Option.getD_some, true_and, and_true, and_self, forall_const, reduceCtorEq, Bool.false_eq_true, ite_true, ite_false, reduceIte, Nat.reduceLT, Nat.reduceLeDiff, Nat.reduceEqDiff, Nat.reduceAdd, Nat.reduceMul, decide_true, decide_false, Bool.true_and, Bool.and_true, Bool.false_and, Bool.and_false, Bool.or_false, Bool.false_or, not_true_eq_false, not_false_eq_true, Classical.not_not, false_implies, implies_true, decide_eq_true_eq, decide_eq_false_iff_not, Bool.not_eq_true, Bool.not_eq_false, Bool.not_eq_eq_eq_not, Bool.and_eq_true, Bool.or_eq_true, Bool.not_true, Bool.not_false, exists_eq_left, Option.some.injEq, Value.int.injEq, Value.long.injEq, Value.ref.injEq, zFx0, zFx1, zFx2, zFx3, zFx4, zFx5, zFx6, zFx7, zFx8, zFx9, zFx10, zFx11, zFx12, zFx13, zFx14, zFm0, zFm1, zFm2, zFm3, zFm4, zofN, znr0, zvpN, nI_clamp, nI_ltI, nI_leI, nI_eq, nI_a1, zN_lt, zN_le, zN_gt, zN_ge, zN_eq, zN_m1, Nat.zero_le, zLE, zi_eq0, zi01b, zi01c, zlast, hpg.f56, hpg.f57, hpg.f134, hpg.f133, hpg.f20, hpg.f10, hpg.f88, hpg.f45, hpg.f78, hpg.f53, hpg.f32, hpg.f74, hpg.f61, hpg.f34, hpg.f127, hpg.f211, hpg.f73, hpg.f72, hpg.f209, hpg.f216, hpg.f29, hpg.f31, hpg.f30, hpg.f28, hpg.f27, hpg.f204, hpg.f205, hpg.f76, hpg.f77, hpg.f217, hpg.f187, hpg.f43, hpg.f42, hpg.f44, hpg.f186, hpg.f188, hpg.f35, hpg.f36, hpg.f37, hpg.f178, hpg.f180, hpg.f1, hpg.f2, hpg.f3, hpg.f4, hpg.f5, hpg.f153, hpg.f154, hpg.f155, hpg.f156, hpg.f157, hpg.f164, hpg.f165, hpg.f166, hpg.f81, hpg.f84, hpg.f85, hpg.f86, hpg.f87, hpg.f137, hpg.f175, hpg.f174, hpg.f191, hpg.f11, hpg.f12, hpg.f13, hpg.f14, hpg.f15, hpg.f16, hpg.f17, hpg.f80, hpg.f138, hpg.f141, hpg.f143, hpg.f145, hpg.f129, hpg.f130, hpg.f132, hpg.f135, hpg.f136, k129, k130, k132, k135, k11, k12, zset_self, k136 hpg.a, k143 hpg.dr, k174 hpg.dr, k191 hpg.dr, k56 hpg hP, zi01]
  fail
theorem k58 {c : Nat} {x : Int32} (hpg : Fpg F) (hP : PgX L n k μ) (hx : x = nI c) (hc : c ≤ 126) (h : if nxN L n k c c = true then P (some (.int 1)) (zset μ 16 7 (nI (k + 1))) else P (some (.int 0)) μ) : KK Zx F (d + 3) 58 [.ref 16, .int x] μ P := by
  subst hx
  have h4 := hP.2.2.2.1
  have hn := nx_eq hP hc hc
  cases hb : nxN L n k c c with
  | true =>
    rw [hb] at h hn
    rw [if_pos rfl] at h
    refine KK_in bd_58 rfl (Nat.le_of_ble_eq_true rfl) ?_; simp (disch := first | omega | (simp (disch := omega) only [forall_eq', Value.category, or_true, true_or, Option.isSome_some, Option.getD_some, true_and, and_true, and_self, forall_const, reduceCtorEq, Bool.false_eq_true, ite_true, ite_false, reduceIte, Nat.reduceLT, Nat.reduceLeDiff, Nat.reduceEqDiff, Nat.reduceAdd, Nat.reduceMul, decide_true, decide_false, Bool.true_and, Bool.and_true, Bool.false_and, Bool.and_false, Bool.or_false, Bool.false_or, not_true_eq_false, not_false_eq_true, Classical.not_not, false_implies, implies_true, decide_eq_true_eq, decide_eq_false_iff_not, Bool.not_eq_true, Bool.not_eq_false, Bool.not_eq_eq_eq_not, Bool.and_eq_true, Bool.or_eq_true, Bool.not_true, Bool.not_false, exists_eq_left, Option.some.injEq, Value.int.injEq, Value.long.injEq, Value.ref.injEq, zofN, znr0, zvpN, nI_clamp, nI_ltI, nI_leI, nI_eq, nI_a1, zN_lt, zN_le, zN_gt, zN_ge, zN_eq, zN_m1, Nat.zero_le, zLE, zi_eq0, zi01b, zi01c, zlast, k56 hpg hP, hn, h4])) only [bd_58, sSeq, sIf, sSkip, sDecI, sDecL, sDecR, sSetI, sSetL, sInc, sRetI, sRetZ, sRetL, sRetR, sRetV, sScope, sPut, sPutL, sUpd, sSt, sStL, sStU, sStUL, sCpy, sCpyL, sCS, sCV, sSw, zsw, sBrk, xP, xCS, xCV, xNz, xI, xAnd, xOr, xNot, xT, xB, xInc, xPre, xIncL, xEq, eK, eV, eW, eR, eB, eU, eD, eT, eI, eAnd, eOr, eNot, eF, eFL, eFR, eA, eAL, eAR, eN, eCS, eCV, aN, aI, aL, aR, zen, zli, zlj, zlr, zob, rdI, rdL, rdR, zfk, List.cons_append, List.nil_append, List.set_cons_zero, List.set_cons_succ, List.take_succ_cons, List.take_zero, List.length_cons, List.length_nil, List.getElem?_cons_zero, List.getElem?_cons_succ, forall_eq', Value.category, or_true, true_or, Option.isSome_some, Option.getD_some, true_and, and_true, and_self, forall_const, reduceCtorEq, Bool.false_eq_true, ite_true, ite_false, reduceIte, Nat.reduceLT, Nat.reduceLeDiff, Nat.reduceEqDiff, Nat.reduceAdd, Nat.reduceMul, decide_true, decide_false, Bool.true_and, Bool.and_true, Bool.false_and, Bool.and_false, Bool.or_false, Bool.false_or, not_true_eq_false, not_false_eq_true, Classical.not_not, false_implies, implies_true, decide_eq_true_eq, decide_eq_false_iff_not, Bool.not_eq_true, Bool.not_eq_false, Bool.not_eq_eq_eq_not, Bool.and_eq_true, Bool.or_eq_true, Bool.not_true, Bool.not_false, exists_eq_left, Option.some.injEq, Value.int.injEq, Value.long.injEq, Value.ref.injEq, zFx0, zFx1, zFx2, zFx3, zFx4, zFx5, zFx6, zFx7, zFx8, zFx9, zFx10, zFx11, zFx12, zFx13, zFx14, zFm0, zFm1, zFm2, zFm3, zFm4, zofN, znr0, zvpN, nI_clamp, nI_ltI, nI_leI, nI_eq, nI_a1, zN_lt, zN_le, zN_gt, zN_ge, zN_eq, zN_m1, Nat.zero_le, zLE, zi_eq0, zi01b, zi01c, zlast, hpg.f56, hpg.f57, hpg.f134, hpg.f133, hpg.f20, hpg.f10, hpg.f88, hpg.f45, hpg.f78, hpg.f53, hpg.f32, hpg.f74, hpg.f61, hpg.f34, hpg.f127, hpg.f211, hpg.f73, hpg.f72, hpg.f209, hpg.f216, hpg.f29, hpg.f31, hpg.f30, hpg.f28, hpg.f27, hpg.f204, hpg.f205, hpg.f76, hpg.f77, hpg.f217, hpg.f187, hpg.f43, hpg.f42, hpg.f44, hpg.f186, hpg.f188, hpg.f35, hpg.f36, hpg.f37, hpg.f178, hpg.f180, hpg.f1, hpg.f2, hpg.f3, hpg.f4, hpg.f5, hpg.f153, hpg.f154, hpg.f155, hpg.f156, hpg.f157, hpg.f164, hpg.f165, hpg.f166, hpg.f81, hpg.f84, hpg.f85, hpg.f86, hpg.f87, hpg.f137, hpg.f175, hpg.f174, hpg.f191, hpg.f11, hpg.f12, hpg.f13, hpg.f14, hpg.f15, hpg.f16, hpg.f17, hpg.f80, hpg.f138, hpg.f141, hpg.f143, hpg.f145, hpg.f129, hpg.f130, hpg.f132, hpg.f135, hpg.f136, k129, k130, k132, k135, k11, k12, zset_self, k136 hpg.a, k143 hpg.dr, k174 hpg.dr, k191 hpg.dr, k56 hpg hP, hn, h4]
    fail
  | false =>
    rw [hb] at h hn
    rw [if_neg (by decide)] at h
    refine KK_in bd_58 rfl (Nat.le_of_ble_eq_true rfl) ?_; simp (disch := first | omega | (simp (disch := omega) only [forall_eq', Value.category, or_true, true_or, Option.isSome_some, Option.getD_some, true_and, and_true, and_self, forall_const, reduceCtorEq, Bool.false_eq_true, ite_true, ite_false, reduceIte, Nat.reduceLT, Nat.reduceLeDiff, Nat.reduceEqDiff, Nat.reduceAdd, Nat.reduceMul, decide_true, decide_false, Bool.true_and, Bool.and_true, Bool.false_and, Bool.and_false, Bool.or_false, Bool.false_or, not_true_eq_false, not_false_eq_true, Classical.not_not, false_implies, implies_true, decide_eq_true_eq, decide_eq_false_iff_not, Bool.not_eq_true, Bool.not_eq_false, Bool.not_eq_eq_eq_not, Bool.and_eq_true, Bool.or_eq_true, Bool.not_true, Bool.not_false, exists_eq_left, Option.some.injEq, Value.int.injEq, Value.long.injEq, Value.ref.injEq, zofN, znr0, zvpN, nI_clamp, nI_ltI, nI_leI, nI_eq, nI_a1, zN_lt, zN_le, zN_gt, zN_ge, zN_eq, zN_m1, Nat.zero_le, zLE, zi_eq0, zi01b, zi01c, zlast, k56 hpg hP, hn, h4])) only [bd_58, sSeq, sIf, sSkip, sDecI, sDecL, sDecR, sSetI, sSetL, sInc, sRetI, sRetZ, sRetL, sRetR, sRetV, sScope, sPut, sPutL, sUpd, sSt, sStL, sStU, sStUL, sCpy, sCpyL, sCS, sCV, sSw, zsw, sBrk, xP, xCS, xCV, xNz, xI, xAnd, xOr, xNot, xT, xB, xInc, xPre, xIncL, xEq, eK, eV, eW, eR, eB, eU, eD, eT, eI, eAnd, eOr, eNot, eF, eFL, eFR, eA, eAL, eAR, eN, eCS, eCV, aN, aI, aL, aR, zen, zli, zlj, zlr, zob, rdI, rdL, rdR, zfk, List.cons_append, List.nil_append, List.set_cons_zero, List.set_cons_succ, List.take_succ_cons, List.take_zero, List.length_cons, List.length_nil, List.getElem?_cons_zero, List.getElem?_cons_succ, forall_eq', Value.category, or_true, true_or, Option.isSome_some, Option.getD_some, true_and, and_true, and_self, forall_const, reduceCtorEq, Bool.false_eq_true, ite_true, ite_false, reduceIte, Nat.reduceLT, Nat.reduceLeDiff, Nat.reduceEqDiff, Nat.reduceAdd, Nat.reduceMul, decide_true, decide_false, Bool.true_and, Bool.and_true, Bool.false_and, Bool.and_false, Bool.or_false, Bool.false_or, not_true_eq_false, not_false_eq_true, Classical.not_not, false_implies, implies_true, decide_eq_true_eq, decide_eq_false_iff_not, Bool.not_eq_true, Bool.not_eq_false, Bool.not_eq_eq_eq_not, Bool.and_eq_true, Bool.or_eq_true, Bool.not_true, Bool.not_false, exists_eq_left, Option.some.injEq, Value.int.injEq, Value.long.injEq, Value.ref.injEq, zFx0, zFx1, zFx2, zFx3, zFx4, zFx5, zFx6, zFx7, zFx8, zFx9, zFx10, zFx11, zFx12, zFx13, zFx14, zFm0, zFm1, zFm2, zFm3, zFm4, zofN, znr0, zvpN, nI_clamp, nI_ltI, nI_leI, nI_eq, nI_a1, zN_lt, zN_le, zN_gt, zN_ge, zN_eq, zN_m1, Nat.zero_le, zLE, zi_eq0, zi01b, zi01c, zlast, hpg.f56, hpg.f57, hpg.f134, hpg.f133, hpg.f20, hpg.f10, hpg.f88, hpg.f45, hpg.f78, hpg.f53, hpg.f32, hpg.f74, hpg.f61, hpg.f34, hpg.f127, hpg.f211, hpg.f73, hpg.f72, hpg.f209, hpg.f216, hpg.f29, hpg.f31, hpg.f30, hpg.f28, hpg.f27, hpg.f204, hpg.f205, hpg.f76, hpg.f77, hpg.f217, hpg.f187, hpg.f43, hpg.f42, hpg.f44, hpg.f186, hpg.f188, hpg.f35, hpg.f36, hpg.f37, hpg.f178, hpg.f180, hpg.f1, hpg.f2, hpg.f3, hpg.f4, hpg.f5, hpg.f153, hpg.f154, hpg.f155, hpg.f156, hpg.f157, hpg.f164, hpg.f165, hpg.f166, hpg.f81, hpg.f84, hpg.f85, hpg.f86, hpg.f87, hpg.f137, hpg.f175, hpg.f174, hpg.f191, hpg.f11, hpg.f12, hpg.f13, hpg.f14, hpg.f15, hpg.f16, hpg.f17, hpg.f80, hpg.f138, hpg.f141, hpg.f143, hpg.f145, hpg.f129, hpg.f130, hpg.f132, hpg.f135, hpg.f136, k129, k130, k132, k135, k11, k12, zset_self, k136 hpg.a, k143 hpg.dr, k174 hpg.dr, k191 hpg.dr, k56 hpg hP, hn, h4]
    fail
theorem pg_at {j : Nat} (hP : PgX L n k μ) (hj : j ≤ n) : PgX L n j (zset μ 16 7 (nI j)) := by
  obtain ⟨h1, h2, h3, h4, h5⟩ := hP
  exact ⟨h1, hj, by rw [zs_eq, zu_ne (by omega)]; exact h3, by rw [zs_eq, zu_eq], fun i hi => by rw [zs_ne (by omega)]; exact h5 i hi⟩
theorem k60 (hpg : Fpg F) (hP : PgX L n k μ) (h : ∀ ng k1 j, ng = nxN L n k 45 45 → k1 = (if ng = true then k + 1 else k) → j ≤ 4 → k1 + j ≤ n → (∀ i, i < j → nxN L n (k1 + i) 48 57 = true) → (j = 4 ∨ nxN L n (k1 + j) 48 57 = false) → P (some (.int (zi (decide (0 < j))))) (zset (zset μ 16 7 (nI (k1 + j))) 16 9 (sgV ng (vlN L k1 j)))) : KK Zx F (d + 4) 60 [.ref 16] μ P := by
  have h4 := hP.2.2.2.1
  obtain ⟨ng, hng⟩ : ∃ ng, ng = nxN L n k 45 45 := ⟨_, rfl⟩
  have step : ∀ k1, k1 ≤ n → k1 = (if ng = true then k + 1 else k) → ∀ Q : Option Value → ZM → Prop, Q (some (.int (zi ng))) (zset μ 16 7 (nI k1)) → KK Zx F (d + 3) 58 [.ref 16, .int 45] μ Q := by
    intro k1 _ hk1 Q hQ
    refine k58 (d := d) (c := 45) hpg hP rfl (by decide) ?_
    rw [← hng]
    cases ng with
    | true => rw [if_pos rfl] at hk1 ⊢; rw [hk1] at hQ; exact hQ
    | false => rw [if_neg (by decide)] at hk1 ⊢; rw [hk1, ← h4, zset_self] at hQ; exact hQ
  obtain ⟨k1, hk1⟩ : ∃ k1, k1 = (if ng = true then k + 1 else k) := ⟨_, rfl⟩
  have hk1n : k1 ≤ n := by
    rw [hk1]
    split
    · rename_i z; have := (nx_t (hng.symm.trans z)).1; omega
    · exact hP.2.1
  have h := h ng k1
  refine KK_in bd_60 rfl (Nat.le_of_ble_eq_true rfl) ?_; simp (disch := first | omega | (simp (disch := omega) only [forall_eq', Value.category, or_true, true_or, Option.isSome_some, Option.getD_some, true_and, and_true, and_self, forall_const, reduceCtorEq, Bool.false_eq_true, ite_true, ite_false, reduceIte, Nat.reduceLT, Nat.reduceLeDiff, Nat.reduceEqDiff, Nat.reduceAdd, Nat.reduceMul, decide_true, decide_false, Bool.true_and, Bool.and_true, Bool.false_and, Bool.and_false, Bool.or_false, Bool.false_or, not_true_eq_false, not_false_eq_true, Classical.not_not, false_implies, implies_true, decide_eq_true_eq, decide_eq_false_iff_not, Bool.not_eq_true, Bool.not_eq_false, Bool.not_eq_eq_eq_not, Bool.and_eq_true, Bool.or_eq_true, Bool.not_true, Bool.not_false, exists_eq_left, Option.some.injEq, Value.int.injEq, Value.long.injEq, Value.ref.injEq, zofN, znr0, zvpN, nI_clamp, nI_ltI, nI_leI, nI_eq, nI_a1, zN_lt, zN_le, zN_gt, zN_ge, zN_eq, zN_m1, Nat.zero_le, zLE, zi_eq0, zi01b, zi01c, zlast])) only [bd_60, sSeq, sIf, sSkip, sDecI, sDecL, sDecR, sSetI, sSetL, sInc, sRetI, sRetZ, sRetL, sRetR, sRetV, sScope, sPut, sPutL, sUpd, sSt, sStL, sStU, sStUL, sCpy, sCpyL, sCS, sCV, sSw, zsw, sBrk, xP, xCS, xCV, xNz, xI, xAnd, xOr, xNot, xT, xB, xInc, xPre, xIncL, xEq, eK, eV, eW, eR, eB, eU, eD, eT, eI, eAnd, eOr, eNot, eF, eFL, eFR, eA, eAL, eAR, eN, eCS, eCV, aN, aI, aL, aR, zen, zli, zlj, zlr, zob, rdI, rdL, rdR, zfk, List.cons_append, List.nil_append, List.set_cons_zero, List.set_cons_succ, List.take_succ_cons, List.take_zero, List.length_cons, List.length_nil, List.getElem?_cons_zero, List.getElem?_cons_succ, forall_eq', Value.category, or_true, true_or, Option.isSome_some, Option.getD_some, true_and, and_true, and_self, forall_const, reduceCtorEq, Bool.false_eq_true, ite_true, ite_false, reduceIte, Nat.reduceLT, Nat.reduceLeDiff, Nat.reduceEqDiff, Nat.reduceAdd, Nat.reduceMul, decide_true, decide_false, Bool.true_and, Bool.and_true, Bool.false_and, Bool.and_false, Bool.or_false, Bool.false_or, not_true_eq_false, not_false_eq_true, Classical.not_not, false_implies, implies_true, decide_eq_true_eq, decide_eq_false_iff_not, Bool.not_eq_true, Bool.not_eq_false, Bool.not_eq_eq_eq_not, Bool.and_eq_true, Bool.or_eq_true, Bool.not_true, Bool.not_false, exists_eq_left, Option.some.injEq, Value.int.injEq, Value.long.injEq, Value.ref.injEq, zFx0, zFx1, zFx2, zFx3, zFx4, zFx5, zFx6, zFx7, zFx8, zFx9, zFx10, zFx11, zFx12, zFx13, zFx14, zFm0, zFm1, zFm2, zFm3, zFm4, zofN, znr0, zvpN, nI_clamp, nI_ltI, nI_leI, nI_eq, nI_a1, zN_lt, zN_le, zN_gt, zN_ge, zN_eq, zN_m1, Nat.zero_le, zLE, zi_eq0, zi01b, zi01c, zlast, hpg.f56, hpg.f57, hpg.f134, hpg.f133, hpg.f20, hpg.f10, hpg.f88, hpg.f45, hpg.f78, hpg.f53, hpg.f32, hpg.f74, hpg.f61, hpg.f34, hpg.f127, hpg.f211, hpg.f73, hpg.f72, hpg.f209, hpg.f216, hpg.f29, hpg.f31, hpg.f30, hpg.f28, hpg.f27, hpg.f204, hpg.f205, hpg.f76, hpg.f77, hpg.f217, hpg.f187, hpg.f43, hpg.f42, hpg.f44, hpg.f186, hpg.f188, hpg.f35, hpg.f36, hpg.f37, hpg.f178, hpg.f180, hpg.f1, hpg.f2, hpg.f3, hpg.f4, hpg.f5, hpg.f153, hpg.f154, hpg.f155, hpg.f156, hpg.f157, hpg.f164, hpg.f165, hpg.f166, hpg.f81, hpg.f84, hpg.f85, hpg.f86, hpg.f87, hpg.f137, hpg.f175, hpg.f174, hpg.f191, hpg.f11, hpg.f12, hpg.f13, hpg.f14, hpg.f15, hpg.f16, hpg.f17, hpg.f80, hpg.f138, hpg.f141, hpg.f143, hpg.f145, hpg.f129, hpg.f130, hpg.f132, hpg.f135, hpg.f136, k129, k130, k132, k135, k11, k12, zset_self, k136 hpg.a, k143 hpg.dr, k174 hpg.dr, k191 hpg.dr]
  refine step k1 hk1n hk1 _ ⟨_, rfl, ?_⟩
  simp (disch := first | omega | (simp (disch := omega) only [forall_eq', Value.category, or_true, true_or, Option.isSome_some, Option.getD_some, true_and, and_true, and_self, forall_const, reduceCtorEq, Bool.false_eq_true, ite_true, ite_false, reduceIte, Nat.reduceLT, Nat.reduceLeDiff, Nat.reduceEqDiff, Nat.reduceAdd, Nat.reduceMul, decide_true, decide_false, Bool.true_and, Bool.and_true, Bool.false_and, Bool.and_false, Bool.or_false, Bool.false_or, not_true_eq_false, not_false_eq_true, Classical.not_not, false_implies, implies_true, decide_eq_true_eq, decide_eq_false_iff_not, Bool.not_eq_true, Bool.not_eq_false, Bool.not_eq_eq_eq_not, Bool.and_eq_true, Bool.or_eq_true, Bool.not_true, Bool.not_false, exists_eq_left, Option.some.injEq, Value.int.injEq, Value.long.injEq, Value.ref.injEq, zofN, znr0, zvpN, nI_clamp, nI_ltI, nI_leI, nI_eq, nI_a1, zN_lt, zN_le, zN_gt, zN_ge, zN_eq, zN_m1, Nat.zero_le, zLE, zi_eq0, zi01b, zi01c, zlast])) only [sSeq, sIf, sSkip, sDecI, sDecL, sDecR, sSetI, sSetL, sInc, sRetI, sRetZ, sRetL, sRetR, sRetV, sScope, sPut, sPutL, sUpd, sSt, sStL, sStU, sStUL, sCpy, sCpyL, sCS, sCV, sSw, zsw, sBrk, xP, xCS, xCV, xNz, xI, xAnd, xOr, xNot, xT, xB, xInc, xPre, xIncL, xEq, eK, eV, eW, eR, eB, eU, eD, eT, eI, eAnd, eOr, eNot, eF, eFL, eFR, eA, eAL, eAR, eN, eCS, eCV, aN, aI, aL, aR, zen, zli, zlj, zlr, zob, rdI, rdL, rdR, zfk, List.cons_append, List.nil_append, List.set_cons_zero, List.set_cons_succ, List.take_succ_cons, List.take_zero, List.length_cons, List.length_nil, List.getElem?_cons_zero, List.getElem?_cons_succ, forall_eq', Value.category, or_true, true_or, Option.isSome_some, Option.getD_some, true_and, and_true, and_self, forall_const, reduceCtorEq, Bool.false_eq_true, ite_true, ite_false, reduceIte, Nat.reduceLT, Nat.reduceLeDiff, Nat.reduceEqDiff, Nat.reduceAdd, Nat.reduceMul, decide_true, decide_false, Bool.true_and, Bool.and_true, Bool.false_and, Bool.and_false, Bool.or_false, Bool.false_or, not_true_eq_false, not_false_eq_true, Classical.not_not, false_implies, implies_true, decide_eq_true_eq, decide_eq_false_iff_not, Bool.not_eq_true, Bool.not_eq_false, Bool.not_eq_eq_eq_not, Bool.and_eq_true, Bool.or_eq_true, Bool.not_true, Bool.not_false, exists_eq_left, Option.some.injEq, Value.int.injEq, Value.long.injEq, Value.ref.injEq, zFx0, zFx1, zFx2, zFx3, zFx4, zFx5, zFx6, zFx7, zFx8, zFx9, zFx10, zFx11, zFx12, zFx13, zFx14, zFm0, zFm1, zFm2, zFm3, zFm4, zofN, znr0, zvpN, nI_clamp, nI_ltI, nI_leI, nI_eq, nI_a1, zN_lt, zN_le, zN_gt, zN_ge, zN_eq, zN_m1, Nat.zero_le, zLE, zi_eq0, zi01b, zi01c, zlast, hpg.f56, hpg.f57, hpg.f134, hpg.f133, hpg.f20, hpg.f10, hpg.f88, hpg.f45, hpg.f78, hpg.f53, hpg.f32, hpg.f74, hpg.f61, hpg.f34, hpg.f127, hpg.f211, hpg.f73, hpg.f72, hpg.f209, hpg.f216, hpg.f29, hpg.f31, hpg.f30, hpg.f28, hpg.f27, hpg.f204, hpg.f205, hpg.f76, hpg.f77, hpg.f217, hpg.f187, hpg.f43, hpg.f42, hpg.f44, hpg.f186, hpg.f188, hpg.f35, hpg.f36, hpg.f37, hpg.f178, hpg.f180, hpg.f1, hpg.f2, hpg.f3, hpg.f4, hpg.f5, hpg.f153, hpg.f154, hpg.f155, hpg.f156, hpg.f157, hpg.f164, hpg.f165, hpg.f166, hpg.f81, hpg.f84, hpg.f85, hpg.f86, hpg.f87, hpg.f137, hpg.f175, hpg.f174, hpg.f191, hpg.f11, hpg.f12, hpg.f13, hpg.f14, hpg.f15, hpg.f16, hpg.f17, hpg.f80, hpg.f138, hpg.f141, hpg.f143, hpg.f145, hpg.f129, hpg.f130, hpg.f132, hpg.f135, hpg.f136, k129, k130, k132, k135, k11, k12, zset_self, k136 hpg.a, k143 hpg.dr, k174 hpg.dr, k191 hpg.dr]
  fail
end KE3
