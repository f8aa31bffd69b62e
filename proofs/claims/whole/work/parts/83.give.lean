/-! LAYER B: giveOut, the model: places of a word, all chains hold -/
theorem sr3 : ∀ j, j < 6 → ∀ a, a < 64 → ∀ b, b < 64 → (nI (64 * a + b) >>> ((2 * nI j) &&& 31)) &&& 3 = nI ((64 * a + b) / 4 ^ j % 4) := by decide +kernel
theorem np1 : ∀ n, n ≤ 6 → ∀ p, p < n → nI n - 1 - nI p = nI (n - 1 - p) := by decide +kernel
theorem dgI {n x p : Nat} (hn : n ≤ 6) (hp : p < n) (hx : x < 4096) : (nI x >>> ((2 * (nI n - 1 - nI p)) &&& 31)) &&& 3 = nI (dg n x p) := by
  rw [np1 n hn p hp]
  have := sr3 (n - 1 - p) (by omega) (x / 64) (by omega) (x % 64) (by omega)
  rw [show 64 * (x / 64) + x % 64 = x by omega] at this
  exact this
theorem shn : ∀ n, n ≤ 6 → (1 : Int32) <<< ((2 * nI n) &&& 31) = nI (4 ^ n) := by decide +kernel
theorem p4_le : ∀ n, n ≤ 6 → 4 ^ n ≤ 4096 := by decide +kernel
def Fgm (F : ZFt) : Prop := Fgi F ∧ (∀  μ, F 160 [.ref 0] μ = .int (zi (allB (μ.1 0 8).toNatClampNeg (holM μ))))
theorem Fgm.f160 {F : ZFt} (h : Fgm F) : ∀  μ, F 160 [.ref 0] μ = .int (zi (allB (μ.1 0 8).toNatClampNeg (holM μ))) := h.2
theorem Fgm.gi {F : ZFt} (h : Fgm F) : Fgi F := h.1
def Fgm.f24 {F : ZFt} (h : Fgm F) := (h.1).f24
def Fgm.f25 {F : ZFt} (h : Fgm F) := (h.1).f25
theorem Fgm.gc {F : ZFt} (h : Fgm F) : Fgc F := h.1.1
def Fgm.f9 {F : ZFt} (h : Fgm F) := (h.1.1).f9
theorem Fgm.of {F : ZFt} (h : Fgm F) : Fof F := h.1.1.1
def Fgm.f18 {F : ZFt} (h : Fgm F) := (h.1.1.1).f18
def Fgm.f19 {F : ZFt} (h : Fgm F) := (h.1.1.1).f19
theorem Fgm.pg {F : ZFt} (h : Fgm F) : Fpg F := h.1.1.1.1
def Fgm.f56 {F : ZFt} (h : Fgm F) := (h.1.1.1.1).f56
def Fgm.f57 {F : ZFt} (h : Fgm F) := (h.1.1.1.1).f57
theorem Fgm.le {F : ZFt} (h : Fgm F) : Fle F := h.1.1.1.1.1
def Fgm.f134 {F : ZFt} (h : Fgm F) := (h.1.1.1.1.1).f134
theorem Fgm.di {F : ZFt} (h : Fgm F) : Fdi F := h.1.1.1.1.1.1
def Fgm.f133 {F : ZFt} (h : Fgm F) := (h.1.1.1.1.1.1).f133
def Fgm.f20 {F : ZFt} (h : Fgm F) := (h.1.1.1.1.1.1).f20
def Fgm.f10 {F : ZFt} (h : Fgm F) := (h.1.1.1.1.1.1).f10
def Fgm.f88 {F : ZFt} (h : Fgm F) := (h.1.1.1.1.1.1).f88
def Fgm.f45 {F : ZFt} (h : Fgm F) := (h.1.1.1.1.1.1).f45
def Fgm.f78 {F : ZFt} (h : Fgm F) := (h.1.1.1.1.1.1).f78
def Fgm.f53 {F : ZFt} (h : Fgm F) := (h.1.1.1.1.1.1).f53
def Fgm.f32 {F : ZFt} (h : Fgm F) := (h.1.1.1.1.1.1).f32
def Fgm.f74 {F : ZFt} (h : Fgm F) := (h.1.1.1.1.1.1).f74
def Fgm.f61 {F : ZFt} (h : Fgm F) := (h.1.1.1.1.1.1).f61
theorem Fgm.co {F : ZFt} (h : Fgm F) : Fco F := h.1.1.1.1.1.1.1
def Fgm.f34 {F : ZFt} (h : Fgm F) := (h.1.1.1.1.1.1.1).f34
def Fgm.f127 {F : ZFt} (h : Fgm F) := (h.1.1.1.1.1.1.1).f127
def Fgm.f211 {F : ZFt} (h : Fgm F) := (h.1.1.1.1.1.1.1).f211
theorem Fgm.df {F : ZFt} (h : Fgm F) : Fdf F := h.1.1.1.1.1.1.1.1
def Fgm.f73 {F : ZFt} (h : Fgm F) := (h.1.1.1.1.1.1.1.1).f73
def Fgm.f72 {F : ZFt} (h : Fgm F) := (h.1.1.1.1.1.1.1.1).f72
def Fgm.f209 {F : ZFt} (h : Fgm F) := (h.1.1.1.1.1.1.1.1).f209
theorem Fgm.en {F : ZFt} (h : Fgm F) : Fen F := h.1.1.1.1.1.1.1.1.1
def Fgm.f216 {F : ZFt} (h : Fgm F) := (h.1.1.1.1.1.1.1.1.1).f216
def Fgm.f29 {F : ZFt} (h : Fgm F) := (h.1.1.1.1.1.1.1.1.1).f29
def Fgm.f31 {F : ZFt} (h : Fgm F) := (h.1.1.1.1.1.1.1.1.1).f31
def Fgm.f30 {F : ZFt} (h : Fgm F) := (h.1.1.1.1.1.1.1.1.1).f30
def Fgm.f28 {F : ZFt} (h : Fgm F) := (h.1.1.1.1.1.1.1.1.1).f28
def Fgm.f27 {F : ZFt} (h : Fgm F) := (h.1.1.1.1.1.1.1.1.1).f27
def Fgm.f204 {F : ZFt} (h : Fgm F) := (h.1.1.1.1.1.1.1.1.1).f204
def Fgm.f205 {F : ZFt} (h : Fgm F) := (h.1.1.1.1.1.1.1.1.1).f205
theorem Fgm.fo {F : ZFt} (h : Fgm F) : Ffo F := h.1.1.1.1.1.1.1.1.1.1
def Fgm.f76 {F : ZFt} (h : Fgm F) := (h.1.1.1.1.1.1.1.1.1.1).f76
def Fgm.f77 {F : ZFt} (h : Fgm F) := (h.1.1.1.1.1.1.1.1.1.1).f77
theorem Fgm.bl {F : ZFt} (h : Fgm F) : Fbl F := h.1.1.1.1.1.1.1.1.1.1.1
def Fgm.f217 {F : ZFt} (h : Fgm F) := (h.1.1.1.1.1.1.1.1.1.1.1).f217
def Fgm.f187 {F : ZFt} (h : Fgm F) := (h.1.1.1.1.1.1.1.1.1.1.1).f187
def Fgm.f43 {F : ZFt} (h : Fgm F) := (h.1.1.1.1.1.1.1.1.1.1.1).f43
def Fgm.f42 {F : ZFt} (h : Fgm F) := (h.1.1.1.1.1.1.1.1.1.1.1).f42
def Fgm.f44 {F : ZFt} (h : Fgm F) := (h.1.1.1.1.1.1.1.1.1.1.1).f44
def Fgm.f186 {F : ZFt} (h : Fgm F) := (h.1.1.1.1.1.1.1.1.1.1.1).f186
def Fgm.f188 {F : ZFt} (h : Fgm F) := (h.1.1.1.1.1.1.1.1.1.1.1).f188
theorem Fgm.ri {F : ZFt} (h : Fgm F) : Fri F := h.1.1.1.1.1.1.1.1.1.1.1.1
def Fgm.f35 {F : ZFt} (h : Fgm F) := (h.1.1.1.1.1.1.1.1.1.1.1.1).f35
def Fgm.f36 {F : ZFt} (h : Fgm F) := (h.1.1.1.1.1.1.1.1.1.1.1.1).f36
def Fgm.f37 {F : ZFt} (h : Fgm F) := (h.1.1.1.1.1.1.1.1.1.1.1.1).f37
def Fgm.f178 {F : ZFt} (h : Fgm F) := (h.1.1.1.1.1.1.1.1.1.1.1.1).f178
def Fgm.f180 {F : ZFt} (h : Fgm F) := (h.1.1.1.1.1.1.1.1.1.1.1.1).f180
theorem Fgm.ch {F : ZFt} (h : Fgm F) : Fch F := h.1.1.1.1.1.1.1.1.1.1.1.1.1
def Fgm.f1 {F : ZFt} (h : Fgm F) := (h.1.1.1.1.1.1.1.1.1.1.1.1.1).f1
def Fgm.f2 {F : ZFt} (h : Fgm F) := (h.1.1.1.1.1.1.1.1.1.1.1.1.1).f2
def Fgm.f3 {F : ZFt} (h : Fgm F) := (h.1.1.1.1.1.1.1.1.1.1.1.1.1).f3
def Fgm.f4 {F : ZFt} (h : Fgm F) := (h.1.1.1.1.1.1.1.1.1.1.1.1.1).f4
def Fgm.f5 {F : ZFt} (h : Fgm F) := (h.1.1.1.1.1.1.1.1.1.1.1.1.1).f5
def Fgm.f153 {F : ZFt} (h : Fgm F) := (h.1.1.1.1.1.1.1.1.1.1.1.1.1).f153
def Fgm.f154 {F : ZFt} (h : Fgm F) := (h.1.1.1.1.1.1.1.1.1.1.1.1.1).f154
def Fgm.f155 {F : ZFt} (h : Fgm F) := (h.1.1.1.1.1.1.1.1.1.1.1.1.1).f155
def Fgm.f156 {F : ZFt} (h : Fgm F) := (h.1.1.1.1.1.1.1.1.1.1.1.1.1).f156
def Fgm.f157 {F : ZFt} (h : Fgm F) := (h.1.1.1.1.1.1.1.1.1.1.1.1.1).f157
theorem Fgm.kn {F : ZFt} (h : Fgm F) : Fkn F := h.1.1.1.1.1.1.1.1.1.1.1.1.1.1
def Fgm.f164 {F : ZFt} (h : Fgm F) := (h.1.1.1.1.1.1.1.1.1.1.1.1.1.1).f164
def Fgm.f165 {F : ZFt} (h : Fgm F) := (h.1.1.1.1.1.1.1.1.1.1.1.1.1.1).f165
def Fgm.f166 {F : ZFt} (h : Fgm F) := (h.1.1.1.1.1.1.1.1.1.1.1.1.1.1).f166
def Fgm.f81 {F : ZFt} (h : Fgm F) := (h.1.1.1.1.1.1.1.1.1.1.1.1.1.1).f81
def Fgm.f84 {F : ZFt} (h : Fgm F) := (h.1.1.1.1.1.1.1.1.1.1.1.1.1.1).f84
def Fgm.f85 {F : ZFt} (h : Fgm F) := (h.1.1.1.1.1.1.1.1.1.1.1.1.1.1).f85
def Fgm.f86 {F : ZFt} (h : Fgm F) := (h.1.1.1.1.1.1.1.1.1.1.1.1.1.1).f86
def Fgm.f87 {F : ZFt} (h : Fgm F) := (h.1.1.1.1.1.1.1.1.1.1.1.1.1.1).f87
theorem Fgm.ma {F : ZFt} (h : Fgm F) : Fma F := h.1.1.1.1.1.1.1.1.1.1.1.1.1.1.1
def Fgm.f137 {F : ZFt} (h : Fgm F) := (h.1.1.1.1.1.1.1.1.1.1.1.1.1.1.1).f137
def Fgm.f175 {F : ZFt} (h : Fgm F) := (h.1.1.1.1.1.1.1.1.1.1.1.1.1.1.1).f175
theorem Fgm.sm {F : ZFt} (h : Fgm F) : Fsm F := h.1.1.1.1.1.1.1.1.1.1.1.1.1.1.1.1
def Fgm.f174 {F : ZFt} (h : Fgm F) := (h.1.1.1.1.1.1.1.1.1.1.1.1.1.1.1.1).f174
def Fgm.f191 {F : ZFt} (h : Fgm F) := (h.1.1.1.1.1.1.1.1.1.1.1.1.1.1.1.1).f191
theorem Fgm.dr {F : ZFt} (h : Fgm F) : Fdr F := h.1.1.1.1.1.1.1.1.1.1.1.1.1.1.1.1.1
def Fgm.f11 {F : ZFt} (h : Fgm F) := (h.1.1.1.1.1.1.1.1.1.1.1.1.1.1.1.1.1).f11
def Fgm.f12 {F : ZFt} (h : Fgm F) := (h.1.1.1.1.1.1.1.1.1.1.1.1.1.1.1.1.1).f12
def Fgm.f13 {F : ZFt} (h : Fgm F) := (h.1.1.1.1.1.1.1.1.1.1.1.1.1.1.1.1.1).f13
def Fgm.f14 {F : ZFt} (h : Fgm F) := (h.1.1.1.1.1.1.1.1.1.1.1.1.1.1.1.1.1).f14
def Fgm.f15 {F : ZFt} (h : Fgm F) := (h.1.1.1.1.1.1.1.1.1.1.1.1.1.1.1.1.1).f15
def Fgm.f16 {F : ZFt} (h : Fgm F) := (h.1.1.1.1.1.1.1.1.1.1.1.1.1.1.1.1.1).f16
def Fgm.f17 {F : ZFt} (h : Fgm F) := (h.1.1.1.1.1.1.1.1.1.1.1.1.1.1.1.1.1).f17
def Fgm.f80 {F : ZFt} (h : Fgm F) := (h.1.1.1.1.1.1.1.1.1.1.1.1.1.1.1.1.1).f80
def Fgm.f138 {F : ZFt} (h : Fgm F) := (h.1.1.1.1.1.1.1.1.1.1.1.1.1.1.1.1.1).f138
def Fgm.f141 {F : ZFt} (h : Fgm F) := (h.1.1.1.1.1.1.1.1.1.1.1.1.1.1.1.1.1).f141
def Fgm.f143 {F : ZFt} (h : Fgm F) := (h.1.1.1.1.1.1.1.1.1.1.1.1.1.1.1.1.1).f143
def Fgm.f145 {F : ZFt} (h : Fgm F) := (h.1.1.1.1.1.1.1.1.1.1.1.1.1.1.1.1.1).f145
theorem Fgm.a {F : ZFt} (h : Fgm F) : Fa F := h.1.1.1.1.1.1.1.1.1.1.1.1.1.1.1.1.1.a
def Fgm.f129 {F : ZFt} (h : Fgm F) := (h.1.1.1.1.1.1.1.1.1.1.1.1.1.1.1.1.1.a).f129
def Fgm.f130 {F : ZFt} (h : Fgm F) := (h.1.1.1.1.1.1.1.1.1.1.1.1.1.1.1.1.1.a).f130
def Fgm.f132 {F : ZFt} (h : Fgm F) := (h.1.1.1.1.1.1.1.1.1.1.1.1.1.1.1.1.1.a).f132
def Fgm.f135 {F : ZFt} (h : Fgm F) := (h.1.1.1.1.1.1.1.1.1.1.1.1.1.1.1.1.1.a).f135
def Fgm.f136 {F : ZFt} (h : Fgm F) := (h.1.1.1.1.1.1.1.1.1.1.1.1.1.1.1.1.1.a).f136
section KG5
variable {F : ZFt} {d : Nat} {μ ν : ZM} {P : Option Value → ZM → Prop} {n nc : Nat}
theorem k160 {te g : Nat → Nat} {q : Nat → Nat → Nat} (hgm : Fgm F) (hnc : ν.1 0 8 = nI nc) (hnc6 : nc ≤ 6) (hc : ∀ c, c < nc → CM1 ν c (te c) (q c)) (hg : GX1 (ν.1 3) g) (h : P (some (.int (zi (allB nc (holM ν))))) ν) : KK Zm F (d + 5) 160 [.ref 0] ν P := by
  refine KK_in bd_160 rfl (Nat.le_of_ble_eq_true rfl) ?_; simp (disch := first | omega | (simp (disch := omega) only [forall_eq', Value.category, or_true, true_or, Option.isSome_some, Option.getD_some, true_and, and_true, and_self, forall_const, reduceCtorEq, Bool.false_eq_true, ite_true, ite_false, reduceIte, Nat.reduceLT, Nat.reduceLeDiff, Nat.reduceEqDiff, Nat.reduceAdd, Nat.reduceMul, decide_true, decide_false, Bool.true_and, Bool.and_true, Bool.false_and, Bool.and_false, Bool.or_false, Bool.false_or, not_true_eq_false, not_false_eq_true, Classical.not_not, false_implies, implies_true, decide_eq_true_eq, decide_eq_false_iff_not, Bool.not_eq_true, Bool.not_eq_false, Bool.not_eq_eq_eq_not, Bool.and_eq_true, Bool.or_eq_true, Bool.not_true, Bool.not_false, exists_eq_left, Option.some.injEq, Value.int.injEq, Value.long.injEq, Value.ref.injEq, zofN, znr0, zvpN, nI_clamp, nI_ltI, nI_leI, nI_eq, nI_a1, zN_lt, zN_le, zN_gt, zN_ge, zN_eq, zN_m1, Nat.zero_le, zLE, zi_eq0, zi01b, zi01c, zlast, hnc])) only [bd_160, sSeq, sIf, sSkip, sDecI, sDecL, sDecR, sSetI, sSetL, sInc, sRetI, sRetZ, sRetL, sRetR, sRetV, sScope, sPut, sPutL, sUpd, sSt, sStL, sStU, sStUL, sCpy, sCpyL, sCS, sCV, sSw, zsw, sBrk, xP, xCS, xCV, xNz, xI, xAnd, xOr, xNot, xT, xB, xInc, xPre, xIncL, xEq, eK, eV, eW, eR, eB, eU, eD, eT, eI, eAnd, eOr, eNot, eF, eFL, eFR, eA, eAL, eAR, eN, eCS, eCV, aN, aI, aL, aR, zen, zli, zlj, zlr, zob, rdI, rdL, rdR, zfk, List.cons_append, List.nil_append, List.set_cons_zero, List.set_cons_succ, List.take_succ_cons, List.take_zero, List.length_cons, List.length_nil, List.getElem?_cons_zero, List.getElem?_cons_succ, forall_eq', Value.category, or_true, true_or, Option.isSome_some, Option.getD_some, true_and, and_true, and_self, forall_const, reduceCtorEq, Bool.false_eq_true, ite_true, ite_false, reduceIte, Nat.reduceLT, Nat.reduceLeDiff, Nat.reduceEqDiff, Nat.reduceAdd, Nat.reduceMul, decide_true, decide_false, Bool.true_and, Bool.and_true, Bool.false_and, Bool.and_false, Bool.or_false, Bool.false_or, not_true_eq_false, not_false_eq_true, Classical.not_not, false_implies, implies_true, decide_eq_true_eq, decide_eq_false_iff_not, Bool.not_eq_true, Bool.not_eq_false, Bool.not_eq_eq_eq_not, Bool.and_eq_true, Bool.or_eq_true, Bool.not_true, Bool.not_false, exists_eq_left, Option.some.injEq, Value.int.injEq, Value.long.injEq, Value.ref.injEq, zFx0, zFx1, zFx2, zFx3, zFx4, zFx5, zFx6, zFx7, zFx8, zFx9, zFx10, zFx11, zFx12, zFx13, zFx14, zFm0, zFm1, zFm2, zFm3, zFm4, zofN, znr0, zvpN, nI_clamp, nI_ltI, nI_leI, nI_eq, nI_a1, zN_lt, zN_le, zN_gt, zN_ge, zN_eq, zN_m1, Nat.zero_le, zLE, zi_eq0, zi01b, zi01c, zlast, hgm.f160, hgm.f24, hgm.f25, hgm.f9, hgm.f18, hgm.f19, hgm.f56, hgm.f57, hgm.f134, hgm.f133, hgm.f20, hgm.f10, hgm.f88, hgm.f45, hgm.f78, hgm.f53, hgm.f32, hgm.f74, hgm.f61, hgm.f34, hgm.f127, hgm.f211, hgm.f73, hgm.f72, hgm.f209, hgm.f216, hgm.f29, hgm.f31, hgm.f30, hgm.f28, hgm.f27, hgm.f204, hgm.f205, hgm.f76, hgm.f77, hgm.f217, hgm.f187, hgm.f43, hgm.f42, hgm.f44, hgm.f186, hgm.f188, hgm.f35, hgm.f36, hgm.f37, hgm.f178, hgm.f180, hgm.f1, hgm.f2, hgm.f3, hgm.f4, hgm.f5, hgm.f153, hgm.f154, hgm.f155, hgm.f156, hgm.f157, hgm.f164, hgm.f165, hgm.f166, hgm.f81, hgm.f84, hgm.f85, hgm.f86, hgm.f87, hgm.f137, hgm.f175, hgm.f174, hgm.f191, hgm.f11, hgm.f12, hgm.f13, hgm.f14, hgm.f15, hgm.f16, hgm.f17, hgm.f80, hgm.f138, hgm.f141, hgm.f143, hgm.f145, hgm.f129, hgm.f130, hgm.f132, hgm.f135, hgm.f136, k129, k130, k132, k135, k11, k12, zset_self, k136 hgm.a, k143 hgm.dr, k174 hgm.dr, k191 hgm.dr, hnc]
  refine whl_up nc (fun c σ => ∃ b, σ = ([.ref 0, .int (zi b), .int (nI c)], ν) ∧ b = allB c (holM ν)) ⟨true, rfl, rfl⟩ ?_
  rintro c σ Nx hNx hcn ⟨b, rfl, hb⟩
  cases b with
  | false =>
    have hf : allB nc (holM ν) = false := by
      unfold allB at hb
      obtain ⟨i, h1, h2⟩ := List.all_eq_false.mp hb.symm
      exact allB_f (i := i) (by have := List.mem_range.mp h1; omega) (by simpa using h2)
    rw [hf] at h
    have z0 : zi false = 0 := rfl
    simp (disch := first | omega | (simp (disch := omega) only [forall_eq', Value.category, or_true, true_or, Option.isSome_some, Option.getD_some, true_and, and_true, and_self, forall_const, reduceCtorEq, Bool.false_eq_true, ite_true, ite_false, reduceIte, Nat.reduceLT, Nat.reduceLeDiff, Nat.reduceEqDiff, Nat.reduceAdd, Nat.reduceMul, decide_true, decide_false, Bool.true_and, Bool.and_true, Bool.false_and, Bool.and_false, Bool.or_false, Bool.false_or, not_true_eq_false, not_false_eq_true, Classical.not_not, false_implies, implies_true, decide_eq_true_eq, decide_eq_false_iff_not, Bool.not_eq_true, Bool.not_eq_false, Bool.not_eq_eq_eq_not, Bool.and_eq_true, Bool.or_eq_true, Bool.not_true, Bool.not_false, exists_eq_left, Option.some.injEq, Value.int.injEq, Value.long.injEq, Value.ref.injEq, zofN, znr0, zvpN, nI_clamp, nI_ltI, nI_leI, nI_eq, nI_a1, zN_lt, zN_le, zN_gt, zN_ge, zN_eq, zN_m1, Nat.zero_le, zLE, zi_eq0, zi01b, zi01c, zlast, hnc, z0])) only [sSeq, sIf, sSkip, sDecI, sDecL, sDecR, sSetI, sSetL, sInc, sRetI, sRetZ, sRetL, sRetR, sRetV, sScope, sPut, sPutL, sUpd, sSt, sStL, sStU, sStUL, sCpy, sCpyL, sCS, sCV, sSw, zsw, sBrk, xP, xCS, xCV, xNz, xI, xAnd, xOr, xNot, xT, xB, xInc, xPre, xIncL, xEq, eK, eV, eW, eR, eB, eU, eD, eT, eI, eAnd, eOr, eNot, eF, eFL, eFR, eA, eAL, eAR, eN, eCS, eCV, aN, aI, aL, aR, zen, zli, zlj, zlr, zob, rdI, rdL, rdR, zfk, List.cons_append, List.nil_append, List.set_cons_zero, List.set_cons_succ, List.take_succ_cons, List.take_zero, List.length_cons, List.length_nil, List.getElem?_cons_zero, List.getElem?_cons_succ, forall_eq', Value.category, or_true, true_or, Option.isSome_some, Option.getD_some, true_and, and_true, and_self, forall_const, reduceCtorEq, Bool.false_eq_true, ite_true, ite_false, reduceIte, Nat.reduceLT, Nat.reduceLeDiff, Nat.reduceEqDiff, Nat.reduceAdd, Nat.reduceMul, decide_true, decide_false, Bool.true_and, Bool.and_true, Bool.false_and, Bool.and_false, Bool.or_false, Bool.false_or, not_true_eq_false, not_false_eq_true, Classical.not_not, false_implies, implies_true, decide_eq_true_eq, decide_eq_false_iff_not, Bool.not_eq_true, Bool.not_eq_false, Bool.not_eq_eq_eq_not, Bool.and_eq_true, Bool.or_eq_true, Bool.not_true, Bool.not_false, exists_eq_left, Option.some.injEq, Value.int.injEq, Value.long.injEq, Value.ref.injEq, zFx0, zFx1, zFx2, zFx3, zFx4, zFx5, zFx6, zFx7, zFx8, zFx9, zFx10, zFx11, zFx12, zFx13, zFx14, zFm0, zFm1, zFm2, zFm3, zFm4, zofN, znr0, zvpN, nI_clamp, nI_ltI, nI_leI, nI_eq, nI_a1, zN_lt, zN_le, zN_gt, zN_ge, zN_eq, zN_m1, Nat.zero_le, zLE, zi_eq0, zi01b, zi01c, zlast, hgm.f160, hgm.f24, hgm.f25, hgm.f9, hgm.f18, hgm.f19, hgm.f56, hgm.f57, hgm.f134, hgm.f133, hgm.f20, hgm.f10, hgm.f88, hgm.f45, hgm.f78, hgm.f53, hgm.f32, hgm.f74, hgm.f61, hgm.f34, hgm.f127, hgm.f211, hgm.f73, hgm.f72, hgm.f209, hgm.f216, hgm.f29, hgm.f31, hgm.f30, hgm.f28, hgm.f27, hgm.f204, hgm.f205, hgm.f76, hgm.f77, hgm.f217, hgm.f187, hgm.f43, hgm.f42, hgm.f44, hgm.f186, hgm.f188, hgm.f35, hgm.f36, hgm.f37, hgm.f178, hgm.f180, hgm.f1, hgm.f2, hgm.f3, hgm.f4, hgm.f5, hgm.f153, hgm.f154, hgm.f155, hgm.f156, hgm.f157, hgm.f164, hgm.f165, hgm.f166, hgm.f81, hgm.f84, hgm.f85, hgm.f86, hgm.f87, hgm.f137, hgm.f175, hgm.f174, hgm.f191, hgm.f11, hgm.f12, hgm.f13, hgm.f14, hgm.f15, hgm.f16, hgm.f17, hgm.f80, hgm.f138, hgm.f141, hgm.f143, hgm.f145, hgm.f129, hgm.f130, hgm.f132, hgm.f135, hgm.f136, k129, k130, k132, k135, k11, k12, zset_self, k136 hgm.a, k143 hgm.dr, k174 hgm.dr, k191 hgm.dr, hnc, z0]
    exact h
  | true =>
    have z1 : zi true = 1 := rfl
    by_cases hin : c < nc
    · have hN := hNx ([.ref 0, .int (zi (holM ν c)), .int (nI (c + 1))], ν) hin ⟨_, rfl, by rw [allB_s, ← hb]; rfl⟩
      simp (disch := first | omega | (simp (disch := omega) only [forall_eq', Value.category, or_true, true_or, Option.isSome_some, Option.getD_some, true_and, and_true, and_self, forall_const, reduceCtorEq, Bool.false_eq_true, ite_true, ite_false, reduceIte, Nat.reduceLT, Nat.reduceLeDiff, Nat.reduceEqDiff, Nat.reduceAdd, Nat.reduceMul, decide_true, decide_false, Bool.true_and, Bool.and_true, Bool.false_and, Bool.and_false, Bool.or_false, Bool.false_or, not_true_eq_false, not_false_eq_true, Classical.not_not, false_implies, implies_true, decide_eq_true_eq, decide_eq_false_iff_not, Bool.not_eq_true, Bool.not_eq_false, Bool.not_eq_eq_eq_not, Bool.and_eq_true, Bool.or_eq_true, Bool.not_true, Bool.not_false, exists_eq_left, Option.some.injEq, Value.int.injEq, Value.long.injEq, Value.ref.injEq, zofN, znr0, zvpN, nI_clamp, nI_ltI, nI_leI, nI_eq, nI_a1, zN_lt, zN_le, zN_gt, zN_ge, zN_eq, zN_m1, Nat.zero_le, zLE, zi_eq0, zi01b, zi01c, zlast, hnc, z1, hin, k156 hgm.ch (hc c hin) hg])) only [sSeq, sIf, sSkip, sDecI, sDecL, sDecR, sSetI, sSetL, sInc, sRetI, sRetZ, sRetL, sRetR, sRetV, sScope, sPut, sPutL, sUpd, sSt, sStL, sStU, sStUL, sCpy, sCpyL, sCS, sCV, sSw, zsw, sBrk, xP, xCS, xCV, xNz, xI, xAnd, xOr, xNot, xT, xB, xInc, xPre, xIncL, xEq, eK, eV, eW, eR, eB, eU, eD, eT, eI, eAnd, eOr, eNot, eF, eFL, eFR, eA, eAL, eAR, eN, eCS, eCV, aN, aI, aL, aR, zen, zli, zlj, zlr, zob, rdI, rdL, rdR, zfk, List.cons_append, List.nil_append, List.set_cons_zero, List.set_cons_succ, List.take_succ_cons, List.take_zero, List.length_cons, List.length_nil, List.getElem?_cons_zero, List.getElem?_cons_succ, forall_eq', Value.category, or_true, true_or, Option.isSome_some, Option.getD_some, true_and, and_true, and_self, forall_const, reduceCtorEq, Bool.false_eq_true, ite_true, ite_false, reduceIte, Nat.reduceLT, Nat.reduceLeDiff, Nat.reduceEqDiff, Nat.reduceAdd, Nat.reduceMul, decide_true, decide_false, Bool.true_and, Bool.and_true, Bool.false_and, Bool.and_false, Bool.or_false, Bool.false_or, not_true_eq_false, not_false_eq_true, Classical.not_not, false_implies, implies_true, decide_eq_true_eq, decide_eq_false_iff_not, Bool.not_eq_true, Bool.not_eq_false, Bool.not_eq_eq_eq_not, Bool.and_eq_true, Bool.or_eq_true, Bool.not_true, Bool.not_false, exists_eq_left, Option.some.injEq, Value.int.injEq, Value.long.injEq, Value.ref.injEq, zFx0, zFx1, zFx2, zFx3, zFx4, zFx5, zFx6, zFx7, zFx8, zFx9, zFx10, zFx11, zFx12, zFx13, zFx14, zFm0, zFm1, zFm2, zFm3, zFm4, zofN, znr0, zvpN, nI_clamp, nI_ltI, nI_leI, nI_eq, nI_a1, zN_lt, zN_le, zN_gt, zN_ge, zN_eq, zN_m1, Nat.zero_le, zLE, zi_eq0, zi01b, zi01c, zlast, hgm.f160, hgm.f24, hgm.f25, hgm.f9, hgm.f18, hgm.f19, hgm.f56, hgm.f57, hgm.f134, hgm.f133, hgm.f20, hgm.f10, hgm.f88, hgm.f45, hgm.f78, hgm.f53, hgm.f32, hgm.f74, hgm.f61, hgm.f34, hgm.f127, hgm.f211, hgm.f73, hgm.f72, hgm.f209, hgm.f216, hgm.f29, hgm.f31, hgm.f30, hgm.f28, hgm.f27, hgm.f204, hgm.f205, hgm.f76, hgm.f77, hgm.f217, hgm.f187, hgm.f43, hgm.f42, hgm.f44, hgm.f186, hgm.f188, hgm.f35, hgm.f36, hgm.f37, hgm.f178, hgm.f180, hgm.f1, hgm.f2, hgm.f3, hgm.f4, hgm.f5, hgm.f153, hgm.f154, hgm.f155, hgm.f156, hgm.f157, hgm.f164, hgm.f165, hgm.f166, hgm.f81, hgm.f84, hgm.f85, hgm.f86, hgm.f87, hgm.f137, hgm.f175, hgm.f174, hgm.f191, hgm.f11, hgm.f12, hgm.f13, hgm.f14, hgm.f15, hgm.f16, hgm.f17, hgm.f80, hgm.f138, hgm.f141, hgm.f143, hgm.f145, hgm.f129, hgm.f130, hgm.f132, hgm.f135, hgm.f136, k129, k130, k132, k135, k11, k12, zset_self, k136 hgm.a, k143 hgm.dr, k174 hgm.dr, k191 hgm.dr, hnc, z1, hin, k156 hgm.ch (hc c hin) hg]
      exact ⟨fun _ => hN, fun z => absurd z (by decide)⟩
    · rw [show c = nc by omega] at hb ⊢
      rw [← hb] at h
      simp (disch := first | omega | (simp (disch := omega) only [forall_eq', Value.category, or_true, true_or, Option.isSome_some, Option.getD_some, true_and, and_true, and_self, forall_const, reduceCtorEq, Bool.false_eq_true, ite_true, ite_false, reduceIte, Nat.reduceLT, Nat.reduceLeDiff, Nat.reduceEqDiff, Nat.reduceAdd, Nat.reduceMul, decide_true, decide_false, Bool.true_and, Bool.and_true, Bool.false_and, Bool.and_false, Bool.or_false, Bool.false_or, not_true_eq_false, not_false_eq_true, Classical.not_not, false_implies, implies_true, decide_eq_true_eq, decide_eq_false_iff_not, Bool.not_eq_true, Bool.not_eq_false, Bool.not_eq_eq_eq_not, Bool.and_eq_true, Bool.or_eq_true, Bool.not_true, Bool.not_false, exists_eq_left, Option.some.injEq, Value.int.injEq, Value.long.injEq, Value.ref.injEq, zofN, znr0, zvpN, nI_clamp, nI_ltI, nI_leI, nI_eq, nI_a1, zN_lt, zN_le, zN_gt, zN_ge, zN_eq, zN_m1, Nat.zero_le, zLE, zi_eq0, zi01b, zi01c, zlast, hnc, z1, Nat.lt_irrefl])) only [sSeq, sIf, sSkip, sDecI, sDecL, sDecR, sSetI, sSetL, sInc, sRetI, sRetZ, sRetL, sRetR, sRetV, sScope, sPut, sPutL, sUpd, sSt, sStL, sStU, sStUL, sCpy, sCpyL, sCS, sCV, sSw, zsw, sBrk, xP, xCS, xCV, xNz, xI, xAnd, xOr, xNot, xT, xB, xInc, xPre, xIncL, xEq, eK, eV, eW, eR, eB, eU, eD, eT, eI, eAnd, eOr, eNot, eF, eFL, eFR, eA, eAL, eAR, eN, eCS, eCV, aN, aI, aL, aR, zen, zli, zlj, zlr, zob, rdI, rdL, rdR, zfk, List.cons_append, List.nil_append, List.set_cons_zero, List.set_cons_succ, List.take_succ_cons, List.take_zero, List.length_cons, List.length_nil, List.getElem?_cons_zero, List.getElem?_cons_succ, forall_eq', Value.category, or_true, true_or, Option.isSome_some, Option.getD_some, true_and, and_true, and_self, forall_const, reduceCtorEq, Bool.false_eq_true, ite_true, ite_false, reduceIte, Nat.reduceLT, Nat.reduceLeDiff, Nat.reduceEqDiff, Nat.reduceAdd, Nat.reduceMul, decide_true, decide_false, Bool.true_and, Bool.and_true, Bool.false_and, Bool.and_false, Bool.or_false, Bool.false_or, not_true_eq_false, not_false_eq_true, Classical.not_not, false_implies, implies_true, decide_eq_true_eq, decide_eq_false_iff_not, Bool.not_eq_true, Bool.not_eq_false, Bool.not_eq_eq_eq_not, Bool.and_eq_true, Bool.or_eq_true, Bool.not_true, Bool.not_false, exists_eq_left, Option.some.injEq, Value.int.injEq, Value.long.injEq, Value.ref.injEq, zFx0, zFx1, zFx2, zFx3, zFx4, zFx5, zFx6, zFx7, zFx8, zFx9, zFx10, zFx11, zFx12, zFx13, zFx14, zFm0, zFm1, zFm2, zFm3, zFm4, zofN, znr0, zvpN, nI_clamp, nI_ltI, nI_leI, nI_eq, nI_a1, zN_lt, zN_le, zN_gt, zN_ge, zN_eq, zN_m1, Nat.zero_le, zLE, zi_eq0, zi01b, zi01c, zlast, hgm.f160, hgm.f24, hgm.f25, hgm.f9, hgm.f18, hgm.f19, hgm.f56, hgm.f57, hgm.f134, hgm.f133, hgm.f20, hgm.f10, hgm.f88, hgm.f45, hgm.f78, hgm.f53, hgm.f32, hgm.f74, hgm.f61, hgm.f34, hgm.f127, hgm.f211, hgm.f73, hgm.f72, hgm.f209, hgm.f216, hgm.f29, hgm.f31, hgm.f30, hgm.f28, hgm.f27, hgm.f204, hgm.f205, hgm.f76, hgm.f77, hgm.f217, hgm.f187, hgm.f43, hgm.f42, hgm.f44, hgm.f186, hgm.f188, hgm.f35, hgm.f36, hgm.f37, hgm.f178, hgm.f180, hgm.f1, hgm.f2, hgm.f3, hgm.f4, hgm.f5, hgm.f153, hgm.f154, hgm.f155, hgm.f156, hgm.f157, hgm.f164, hgm.f165, hgm.f166, hgm.f81, hgm.f84, hgm.f85, hgm.f86, hgm.f87, hgm.f137, hgm.f175, hgm.f174, hgm.f191, hgm.f11, hgm.f12, hgm.f13, hgm.f14, hgm.f15, hgm.f16, hgm.f17, hgm.f80, hgm.f138, hgm.f141, hgm.f143, hgm.f145, hgm.f129, hgm.f130, hgm.f132, hgm.f135, hgm.f136, k129, k130, k132, k135, k11, k12, zset_self, k136 hgm.a, k143 hgm.dr, k174 hgm.dr, k191 hgm.dr, hnc, z1, Nat.lt_irrefl]
      exact h
end KG5
