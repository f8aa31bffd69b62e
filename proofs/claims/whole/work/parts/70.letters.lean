/-! LAYER B: letters -/
def byN (w : Int64) (k : Nat) : Nat := w.toBitVec.toNat / 2 ^ (8 * k) % 256
theorem byN_lt (w : Int64) (k : Nat) : byN w k < 256 := Nat.mod_lt _ (by decide)
theorem lN_I (a : Nat) : (lN a).toInt32 = nI a := by
  apply Int32.toBitVec_inj.1
  show (BitVec.ofNat 64 a).setWidth 32 = BitVec.ofNat 32 a
  apply BitVec.eq_of_toNat_eq
  simp only [BitVec.toNat_setWidth, BitVec.toNat_ofNat]
  omega
theorem w_lN (w : Int64) : w = lN w.toBitVec.toNat := wb_inj (by rw [wb_tb]; simp)
theorem by_x (w : Int64) {k : Nat} (hk : k < 8) : ((w.toUInt64 >>> ((nI (8 * k)).toInt64.toUInt64 &&& Int64.toUInt64 63)).toInt64 &&& 255).toInt32 = nI (byN w k) := by
  have hn : w.toBitVec.toNat < 2 ^ 64 := w.toBitVec.isLt
  have e : (w.toUInt64 >>> ((nI (8 * k)).toInt64.toUInt64 &&& Int64.toUInt64 63)).toInt64 = lN (w.toBitVec.toNat / 2 ^ (8 * k)) := by
    have := wb_shr (n := w.toBitVec.toNat) (k := 8 * k) hn (by omega)
    rwa [← w_lN] at this
  have h1 : w.toBitVec.toNat / 2 ^ (8 * k) < 2 ^ 64 := Nat.lt_of_le_of_lt (Nat.div_le_self _ _) hn
  rw [e, show (255 : Int64) = lN (2 ^ 8 - 1) from rfl, wb_mask h1 (by decide), lN_I]
  rfl
theorem sar_b (w : Int64) {k i : Nat} (hk : k < 8) (hi : i < 8) : (w >>> ((nI (8 * k)).toInt64 &&& 63)).toBitVec.getLsbD i = w.toBitVec.getLsbD (8 * k + i) := by
  rw [wb_c _ (by omega), Int64.toBitVec_shiftRight, wb_tb]
  show (w.toBitVec.sshiftRight ((BitVec.ofNat 64 (8 * k)).smod 64).toNat).getLsbD i = _
  rw [wb_sm _ (by omega), BitVec.toNat_ofNat, Nat.mod_eq_of_lt (by omega), BitVec.getLsbD_sshiftRight]
  have h1 : 8 * k + i < 64 := by omega
  have h2 : ¬ 64 ≤ i := by omega
  simp [h1, h2]
theorem shr_b (w : Int64) {k i : Nat} (hk : k < 8) (hi : i < 64) : ((w.toUInt64 >>> ((nI (8 * k)).toInt64.toUInt64 &&& Int64.toUInt64 63)).toInt64).toBitVec.getLsbD i = w.toBitVec.getLsbD (8 * k + i) := by
  have hn : w.toBitVec.toNat < 2 ^ 64 := w.toBitVec.isLt
  have e : (w.toUInt64 >>> ((nI (8 * k)).toInt64.toUInt64 &&& Int64.toUInt64 63)).toInt64 = lN (w.toBitVec.toNat / 2 ^ (8 * k)) := by
    have := wb_shr (n := w.toBitVec.toNat) (k := 8 * k) hn (by omega)
    rwa [← w_lN] at this
  rw [e, wb_tb]
  simp only [BitVec.getLsbD_ofNat, hi, decide_true, Bool.true_and, Nat.testBit_div_two_pow]
  rw [Nat.add_comm]
  rfl
theorem b255 : ∀ i, i < 64 → (255 : Int64).toBitVec.getLsbD i = decide (i < 8) := by decide +kernel
theorem by_m (w : Int64) {k : Nat} (hk : k < 8) : ((w >>> ((nI (8 * k)).toInt64 &&& 63)) &&& 255).toInt32 = nI (byN w k) := by
  rw [← by_x w hk]
  congr 1
  apply wb_inj
  rw [Int64.toBitVec_and, Int64.toBitVec_and]
  apply BitVec.eq_of_getLsbD_eq
  intro i hi
  rw [BitVec.getLsbD_and, BitVec.getLsbD_and, b255 i hi]
  by_cases h8 : i < 8
  · rw [sar_b w hk h8, shr_b w hk hi]
  · simp [h8]
theorem i8_n : ∀ b, b < 128 → (Int8.ofNat b).toInt32 = nI b ∧ znr 2 (nI b) = nI b := by decide +kernel
theorem by_n (w : Int64) {k : Nat} (hk : k < 8) (hb : byN w k < 128) : znr 2 ((w >>> ((nI (8 * k)).toInt64 &&& 63)).toInt32.toInt8.toInt32) = nI (byN w k) := by
  have e : (w >>> ((nI (8 * k)).toInt64 &&& 63)).toInt32.toInt8 = Int8.ofNat (byN w k) := by
    apply Int8.toBitVec_inj.1
    show (((w >>> ((nI (8 * k)).toInt64 &&& 63)).toBitVec.setWidth 32).setWidth 8) = BitVec.ofNat 8 (byN w k)
    apply BitVec.eq_of_getLsbD_eq
    intro i hi
    have h32 : i < 32 := by omega
    rw [BitVec.getLsbD_setWidth, BitVec.getLsbD_setWidth, sar_b w hk hi]
    simp only [hi, h32, decide_true, Bool.true_and, BitVec.getLsbD_ofNat, byN, show (256 : Nat) = 2 ^ 8 from rfl, Nat.testBit_mod_two_pow, Nat.testBit_div_two_pow]
    rw [Nat.add_comm]
    rfl
  rw [e, (i8_n _ hb).1, (i8_n _ hb).2]
def letS (b : Nat → Nat) : Nat → Option Nat
  | 0 => some 0
  | i + 1 => match letS b i with
    | none => none
    | some m => if b i = 0 then some m else if 126 < b i ∨ m < i then none else some (m + 1)
theorem letS_n {b : Nat → Nat} {i n : Nat} (hi : i ≤ n) (h : letS b i = none) : letS b n = none := by
  induction n with
  | zero => rwa [show i = 0 by omega] at h
  | succ n ih =>
    by_cases e : i = n + 1
    · rwa [e] at h
    · unfold letS; rw [ih (by omega)]
theorem letS_p {b : Nat → Nat} {i m : Nat} (h : letS b i = some m) : m ≤ i ∧ ∀ j, j < m → 1 ≤ b j ∧ b j ≤ 126 := by
  induction i generalizing m with
  | zero => cases h; exact ⟨Nat.le_refl 0, fun j hj => absurd hj (Nat.not_lt_zero j)⟩
  | succ i ih =>
    unfold letS at h
    cases e : letS b i with
    | none => rw [e] at h; cases h
    | some m' =>
      rw [e] at h
      obtain ⟨h1, h2⟩ := ih e
      simp only at h
      by_cases h0 : b i = 0
      · rw [if_pos h0] at h; cases h; exact ⟨by omega, h2⟩
      · rw [if_neg h0] at h
        by_cases h3 : 126 < b i ∨ m' < i
        · rw [if_pos h3] at h; cases h
        · rw [if_neg h3] at h
          cases h
          have e2 : m' = i := by omega
          subst e2
          refine ⟨Nat.le_refl _, fun j hj => ?_⟩
          by_cases e3 : j = m'
          · subst e3; omega
          · exact h2 j (by omega)
def letV (w : Int64) : Int32 := match letS (byN w) 8 with
  | some m => nI m
  | none => -1
def Fle (F : ZFt) : Prop := Fdi F ∧ (∀ w μ, F 134 [.long w] μ = .int (letV w))
theorem Fle.f134 {F : ZFt} (h : Fle F) : ∀ w μ, F 134 [.long w] μ = .int (letV w) := h.2
theorem Fle.di {F : ZFt} (h : Fle F) : Fdi F := h.1
def Fle.f133 {F : ZFt} (h : Fle F) := (h.1).f133
def Fle.f20 {F : ZFt} (h : Fle F) := (h.1).f20
def Fle.f10 {F : ZFt} (h : Fle F) := (h.1).f10
def Fle.f88 {F : ZFt} (h : Fle F) := (h.1).f88
def Fle.f45 {F : ZFt} (h : Fle F) := (h.1).f45
def Fle.f78 {F : ZFt} (h : Fle F) := (h.1).f78
def Fle.f53 {F : ZFt} (h : Fle F) := (h.1).f53
def Fle.f32 {F : ZFt} (h : Fle F) := (h.1).f32
def Fle.f74 {F : ZFt} (h : Fle F) := (h.1).f74
def Fle.f61 {F : ZFt} (h : Fle F) := (h.1).f61
theorem Fle.co {F : ZFt} (h : Fle F) : Fco F := h.1.1
def Fle.f34 {F : ZFt} (h : Fle F) := (h.1.1).f34
def Fle.f127 {F : ZFt} (h : Fle F) := (h.1.1).f127
def Fle.f211 {F : ZFt} (h : Fle F) := (h.1.1).f211
theorem Fle.df {F : ZFt} (h : Fle F) : Fdf F := h.1.1.1
def Fle.f73 {F : ZFt} (h : Fle F) := (h.1.1.1).f73
def Fle.f72 {F : ZFt} (h : Fle F) := (h.1.1.1).f72
def Fle.f209 {F : ZFt} (h : Fle F) := (h.1.1.1).f209
theorem Fle.en {F : ZFt} (h : Fle F) : Fen F := h.1.1.1.1
def Fle.f216 {F : ZFt} (h : Fle F) := (h.1.1.1.1).f216
def Fle.f29 {F : ZFt} (h : Fle F) := (h.1.1.1.1).f29
def Fle.f31 {F : ZFt} (h : Fle F) := (h.1.1.1.1).f31
def Fle.f30 {F : ZFt} (h : Fle F) := (h.1.1.1.1).f30
def Fle.f28 {F : ZFt} (h : Fle F) := (h.1.1.1.1).f28
def Fle.f27 {F : ZFt} (h : Fle F) := (h.1.1.1.1).f27
def Fle.f204 {F : ZFt} (h : Fle F) := (h.1.1.1.1).f204
def Fle.f205 {F : ZFt} (h : Fle F) := (h.1.1.1.1).f205
theorem Fle.fo {F : ZFt} (h : Fle F) : Ffo F := h.1.1.1.1.1
def Fle.f76 {F : ZFt} (h : Fle F) := (h.1.1.1.1.1).f76
def Fle.f77 {F : ZFt} (h : Fle F) := (h.1.1.1.1.1).f77
theorem Fle.bl {F : ZFt} (h : Fle F) : Fbl F := h.1.1.1.1.1.1
def Fle.f217 {F : ZFt} (h : Fle F) := (h.1.1.1.1.1.1).f217
def Fle.f187 {F : ZFt} (h : Fle F) := (h.1.1.1.1.1.1).f187
def Fle.f43 {F : ZFt} (h : Fle F) := (h.1.1.1.1.1.1).f43
def Fle.f42 {F : ZFt} (h : Fle F) := (h.1.1.1.1.1.1).f42
def Fle.f44 {F : ZFt} (h : Fle F) := (h.1.1.1.1.1.1).f44
def Fle.f186 {F : ZFt} (h : Fle F) := (h.1.1.1.1.1.1).f186
def Fle.f188 {F : ZFt} (h : Fle F) := (h.1.1.1.1.1.1).f188
theorem Fle.ri {F : ZFt} (h : Fle F) : Fri F := h.1.1.1.1.1.1.1
def Fle.f35 {F : ZFt} (h : Fle F) := (h.1.1.1.1.1.1.1).f35
def Fle.f36 {F : ZFt} (h : Fle F) := (h.1.1.1.1.1.1.1).f36
def Fle.f37 {F : ZFt} (h : Fle F) := (h.1.1.1.1.1.1.1).f37
def Fle.f178 {F : ZFt} (h : Fle F) := (h.1.1.1.1.1.1.1).f178
def Fle.f180 {F : ZFt} (h : Fle F) := (h.1.1.1.1.1.1.1).f180
theorem Fle.ch {F : ZFt} (h : Fle F) : Fch F := h.1.1.1.1.1.1.1.1
def Fle.f1 {F : ZFt} (h : Fle F) := (h.1.1.1.1.1.1.1.1).f1
def Fle.f2 {F : ZFt} (h : Fle F) := (h.1.1.1.1.1.1.1.1).f2
def Fle.f3 {F : ZFt} (h : Fle F) := (h.1.1.1.1.1.1.1.1).f3
def Fle.f4 {F : ZFt} (h : Fle F) := (h.1.1.1.1.1.1.1.1).f4
def Fle.f5 {F : ZFt} (h : Fle F) := (h.1.1.1.1.1.1.1.1).f5
def Fle.f153 {F : ZFt} (h : Fle F) := (h.1.1.1.1.1.1.1.1).f153
def Fle.f154 {F : ZFt} (h : Fle F) := (h.1.1.1.1.1.1.1.1).f154
def Fle.f155 {F : ZFt} (h : Fle F) := (h.1.1.1.1.1.1.1.1).f155
def Fle.f156 {F : ZFt} (h : Fle F) := (h.1.1.1.1.1.1.1.1).f156
def Fle.f157 {F : ZFt} (h : Fle F) := (h.1.1.1.1.1.1.1.1).f157
theorem Fle.kn {F : ZFt} (h : Fle F) : Fkn F := h.1.1.1.1.1.1.1.1.1
def Fle.f164 {F : ZFt} (h : Fle F) := (h.1.1.1.1.1.1.1.1.1).f164
def Fle.f165 {F : ZFt} (h : Fle F) := (h.1.1.1.1.1.1.1.1.1).f165
def Fle.f166 {F : ZFt} (h : Fle F) := (h.1.1.1.1.1.1.1.1.1).f166
def Fle.f81 {F : ZFt} (h : Fle F) := (h.1.1.1.1.1.1.1.1.1).f81
def Fle.f84 {F : ZFt} (h : Fle F) := (h.1.1.1.1.1.1.1.1.1).f84
def Fle.f85 {F : ZFt} (h : Fle F) := (h.1.1.1.1.1.1.1.1.1).f85
def Fle.f86 {F : ZFt} (h : Fle F) := (h.1.1.1.1.1.1.1.1.1).f86
def Fle.f87 {F : ZFt} (h : Fle F) := (h.1.1.1.1.1.1.1.1.1).f87
theorem Fle.ma {F : ZFt} (h : Fle F) : Fma F := h.1.1.1.1.1.1.1.1.1.1
def Fle.f137 {F : ZFt} (h : Fle F) := (h.1.1.1.1.1.1.1.1.1.1).f137
def Fle.f175 {F : ZFt} (h : Fle F) := (h.1.1.1.1.1.1.1.1.1.1).f175
theorem Fle.sm {F : ZFt} (h : Fle F) : Fsm F := h.1.1.1.1.1.1.1.1.1.1.1
def Fle.f174 {F : ZFt} (h : Fle F) := (h.1.1.1.1.1.1.1.1.1.1.1).f174
def Fle.f191 {F : ZFt} (h : Fle F) := (h.1.1.1.1.1.1.1.1.1.1.1).f191
theorem Fle.dr {F : ZFt} (h : Fle F) : Fdr F := h.1.1.1.1.1.1.1.1.1.1.1.1
def Fle.f11 {F : ZFt} (h : Fle F) := (h.1.1.1.1.1.1.1.1.1.1.1.1).f11
def Fle.f12 {F : ZFt} (h : Fle F) := (h.1.1.1.1.1.1.1.1.1.1.1.1).f12
def Fle.f13 {F : ZFt} (h : Fle F) := (h.1.1.1.1.1.1.1.1.1.1.1.1).f13
def Fle.f14 {F : ZFt} (h : Fle F) := (h.1.1.1.1.1.1.1.1.1.1.1.1).f14
def Fle.f15 {F : ZFt} (h : Fle F) := (h.1.1.1.1.1.1.1.1.1.1.1.1).f15
def Fle.f16 {F : ZFt} (h : Fle F) := (h.1.1.1.1.1.1.1.1.1.1.1.1).f16
def Fle.f17 {F : ZFt} (h : Fle F) := (h.1.1.1.1.1.1.1.1.1.1.1.1).f17
def Fle.f80 {F : ZFt} (h : Fle F) := (h.1.1.1.1.1.1.1.1.1.1.1.1).f80
def Fle.f138 {F : ZFt} (h : Fle F) := (h.1.1.1.1.1.1.1.1.1.1.1.1).f138
def Fle.f141 {F : ZFt} (h : Fle F) := (h.1.1.1.1.1.1.1.1.1.1.1.1).f141
def Fle.f143 {F : ZFt} (h : Fle F) := (h.1.1.1.1.1.1.1.1.1.1.1.1).f143
def Fle.f145 {F : ZFt} (h : Fle F) := (h.1.1.1.1.1.1.1.1.1.1.1.1).f145
theorem Fle.a {F : ZFt} (h : Fle F) : Fa F := h.1.1.1.1.1.1.1.1.1.1.1.1.a
def Fle.f129 {F : ZFt} (h : Fle F) := (h.1.1.1.1.1.1.1.1.1.1.1.1.a).f129
def Fle.f130 {F : ZFt} (h : Fle F) := (h.1.1.1.1.1.1.1.1.1.1.1.1.a).f130
def Fle.f132 {F : ZFt} (h : Fle F) := (h.1.1.1.1.1.1.1.1.1.1.1.1.a).f132
def Fle.f135 {F : ZFt} (h : Fle F) := (h.1.1.1.1.1.1.1.1.1.1.1.1.a).f135
def Fle.f136 {F : ZFt} (h : Fle F) := (h.1.1.1.1.1.1.1.1.1.1.1.1.a).f136
section KE1
variable {F : ZFt} {d : Nat} {μ ν : ZM} {P : Option Value → ZM → Prop} {n : Nat} {Z : List ZD}
theorem i8m (i : Nat) : 8 * nI i = nI (8 * i) := by
  show nI 8 * nI i = _
  rw [nI_mul]
theorem k134 {w : Int64} (hle : Fle F) (h : P (some (.int (letV w))) μ) : KK Z F (d + 1) 134 [.long w] μ P := by
  refine KK_in be_134 rfl (Nat.le_of_ble_eq_true rfl) ?_; simp (disch := first | omega | (simp (disch := omega) only [forall_eq', Value.category, or_true, true_or, Option.isSome_some, Option.getD_some, true_and, and_true, and_self, forall_const, reduceCtorEq, Bool.false_eq_true, ite_true, ite_false, reduceIte, Nat.reduceLT, Nat.reduceLeDiff, Nat.reduceEqDiff, Nat.reduceAdd, Nat.reduceMul, decide_true, decide_false, Bool.true_and, Bool.and_true, Bool.false_and, Bool.and_false, Bool.or_false, Bool.false_or, not_true_eq_false, not_false_eq_true, Classical.not_not, false_implies, implies_true, decide_eq_true_eq, decide_eq_false_iff_not, Bool.not_eq_true, Bool.not_eq_false, Bool.not_eq_eq_eq_not, Bool.and_eq_true, Bool.or_eq_true, Bool.not_true, Bool.not_false, exists_eq_left, Option.some.injEq, Value.int.injEq, Value.long.injEq, Value.ref.injEq, zofN, znr0, zvpN, nI_clamp, nI_ltI, nI_leI, nI_eq, nI_a1, zN_lt, zN_le, zN_gt, zN_ge, zN_eq, zN_m1, Nat.zero_le, zLE, zi_eq0, zi01b, zi01c, zlast])) only [be_134, sSeq, sIf, sSkip, sDecI, sDecL, sDecR, sSetI, sSetL, sInc, sRetI, sRetZ, sRetL, sRetR, sRetV, sScope, sPut, sPutL, sUpd, sSt, sStL, sStU, sStUL, sCpy, sCpyL, sCS, sCV, sSw, zsw, sBrk, xP, xCS, xCV, xNz, xI, xAnd, xOr, xNot, xT, xB, xInc, xPre, xIncL, xEq, eK, eV, eW, eR, eB, eU, eD, eT, eI, eAnd, eOr, eNot, eF, eFL, eFR, eA, eAL, eAR, eN, eCS, eCV, aN, aI, aL, aR, zen, zli, zlj, zlr, zob, rdI, rdL, rdR, zfk, List.cons_append, List.nil_append, List.set_cons_zero, List.set_cons_succ, List.take_succ_cons, List.take_zero, List.length_cons, List.length_nil, List.getElem?_cons_zero, List.getElem?_cons_succ, forall_eq', Value.category, or_true, true_or, Option.isSome_some, Option.getD_some, true_and, and_true, and_self, forall_const, reduceCtorEq, Bool.false_eq_true, ite_true, ite_false, reduceIte, Nat.reduceLT, Nat.reduceLeDiff, Nat.reduceEqDiff, Nat.reduceAdd, Nat.reduceMul, decide_true, decide_false, Bool.true_and, Bool.and_true, Bool.false_and, Bool.and_false, Bool.or_false, Bool.false_or, not_true_eq_false, not_false_eq_true, Classical.not_not, false_implies, implies_true, decide_eq_true_eq, decide_eq_false_iff_not, Bool.not_eq_true, Bool.not_eq_false, Bool.not_eq_eq_eq_not, Bool.and_eq_true, Bool.or_eq_true, Bool.not_true, Bool.not_false, exists_eq_left, Option.some.injEq, Value.int.injEq, Value.long.injEq, Value.ref.injEq, zFx0, zFx1, zFx2, zFx3, zFx4, zFx5, zFx6, zFx7, zFx8, zFx9, zFx10, zFx11, zFx12, zFx13, zFx14, zFm0, zFm1, zFm2, zFm3, zFm4, zofN, znr0, zvpN, nI_clamp, nI_ltI, nI_leI, nI_eq, nI_a1, zN_lt, zN_le, zN_gt, zN_ge, zN_eq, zN_m1, Nat.zero_le, zLE, zi_eq0, zi01b, zi01c, zlast, hle.f134, hle.f133, hle.f20, hle.f10, hle.f88, hle.f45, hle.f78, hle.f53, hle.f32, hle.f74, hle.f61, hle.f34, hle.f127, hle.f211, hle.f73, hle.f72, hle.f209, hle.f216, hle.f29, hle.f31, hle.f30, hle.f28, hle.f27, hle.f204, hle.f205, hle.f76, hle.f77, hle.f217, hle.f187, hle.f43, hle.f42, hle.f44, hle.f186, hle.f188, hle.f35, hle.f36, hle.f37, hle.f178, hle.f180, hle.f1, hle.f2, hle.f3, hle.f4, hle.f5, hle.f153, hle.f154, hle.f155, hle.f156, hle.f157, hle.f164, hle.f165, hle.f166, hle.f81, hle.f84, hle.f85, hle.f86, hle.f87, hle.f137, hle.f175, hle.f174, hle.f191, hle.f11, hle.f12, hle.f13, hle.f14, hle.f15, hle.f16, hle.f17, hle.f80, hle.f138, hle.f141, hle.f143, hle.f145, hle.f129, hle.f130, hle.f132, hle.f135, hle.f136, k129, k130, k132, k135, k11, k12, zset_self, k136 hle.a, k143 hle.dr, k174 hle.dr, k191 hle.dr]
  refine forT_fr 0 8 (fun i σ => ∃ m, σ = ([.long w, .null, .int (nI m), .int (nI i)], μ) ∧ letS (byN w) i = some m) (by omega) ⟨0, rfl, rfl⟩ ?_
  rintro i σ Nx hNx _ hi ⟨m, rfl, hm⟩
  obtain ⟨hmi, _⟩ := letS_p hm
  by_cases hin : i < 8
  · have hb := byN_lt w i
    have hx := by_x w hin
    by_cases h0 : byN w i = 0
    · have hN := hNx _ hin ⟨m, rfl, by unfold letS; rw [hm]; simp only; rw [if_pos h0]⟩
      simp (disch := first | omega | (simp (disch := omega) only [forall_eq', Value.category, or_true, true_or, Option.isSome_some, Option.getD_some, true_and, and_true, and_self, forall_const, reduceCtorEq, Bool.false_eq_true, ite_true, ite_false, reduceIte, Nat.reduceLT, Nat.reduceLeDiff, Nat.reduceEqDiff, Nat.reduceAdd, Nat.reduceMul, decide_true, decide_false, Bool.true_and, Bool.and_true, Bool.false_and, Bool.and_false, Bool.or_false, Bool.false_or, not_true_eq_false, not_false_eq_true, Classical.not_not, false_implies, implies_true, decide_eq_true_eq, decide_eq_false_iff_not, Bool.not_eq_true, Bool.not_eq_false, Bool.not_eq_eq_eq_not, Bool.and_eq_true, Bool.or_eq_true, Bool.not_true, Bool.not_false, exists_eq_left, Option.some.injEq, Value.int.injEq, Value.long.injEq, Value.ref.injEq, zofN, znr0, zvpN, nI_clamp, nI_ltI, nI_leI, nI_eq, nI_a1, zN_lt, zN_le, zN_gt, zN_ge, zN_eq, zN_m1, Nat.zero_le, zLE, zi_eq0, zi01b, zi01c, zlast, hin, i8m, hx, h0])) only [sSeq, sIf, sSkip, sDecI, sDecL, sDecR, sSetI, sSetL, sInc, sRetI, sRetZ, sRetL, sRetR, sRetV, sScope, sPut, sPutL, sUpd, sSt, sStL, sStU, sStUL, sCpy, sCpyL, sCS, sCV, sSw, zsw, sBrk, xP, xCS, xCV, xNz, xI, xAnd, xOr, xNot, xT, xB, xInc, xPre, xIncL, xEq, eK, eV, eW, eR, eB, eU, eD, eT, eI, eAnd, eOr, eNot, eF, eFL, eFR, eA, eAL, eAR, eN, eCS, eCV, aN, aI, aL, aR, zen, zli, zlj, zlr, zob, rdI, rdL, rdR, zfk, List.cons_append, List.nil_append, List.set_cons_zero, List.set_cons_succ, List.take_succ_cons, List.take_zero, List.length_cons, List.length_nil, List.getElem?_cons_zero, List.getElem?_cons_succ, forall_eq', Value.category, or_true, true_or, Option.isSome_some, Option.getD_some, true_and, and_true, and_self, forall_const, reduceCtorEq, Bool.false_eq_true, ite_true, ite_false, reduceIte, Nat.reduceLT, Nat.reduceLeDiff, Nat.reduceEqDiff, Nat.reduceAdd, Nat.reduceMul, decide_true, decide_false, Bool.true_and, Bool.and_true, Bool.false_and, Bool.and_false, Bool.or_false, Bool.false_or, not_true_eq_false, not_false_eq_true, Classical.not_not, false_implies, implies_true, decide_eq_true_eq, decide_eq_false_iff_not, Bool.not_eq_true, Bool.not_eq_false, Bool.not_eq_eq_eq_not, Bool.and_eq_true, Bool.or_eq_true, Bool.not_true, Bool.not_false, exists_eq_left, Option.some.injEq, Value.int.injEq, Value.long.injEq, Value.ref.injEq, zFx0, zFx1, zFx2, zFx3, zFx4, zFx5, zFx6, zFx7, zFx8, zFx9, zFx10, zFx11, zFx12, zFx13, zFx14, zFm0, zFm1, zFm2, zFm3, zFm4, zofN, znr0, zvpN, nI_clamp, nI_ltI, nI_leI, nI_eq, nI_a1, zN_lt, zN_le, zN_gt, zN_ge, zN_eq, zN_m1, Nat.zero_le, zLE, zi_eq0, zi01b, zi01c, zlast, hle.f134, hle.f133, hle.f20, hle.f10, hle.f88, hle.f45, hle.f78, hle.f53, hle.f32, hle.f74, hle.f61, hle.f34, hle.f127, hle.f211, hle.f73, hle.f72, hle.f209, hle.f216, hle.f29, hle.f31, hle.f30, hle.f28, hle.f27, hle.f204, hle.f205, hle.f76, hle.f77, hle.f217, hle.f187, hle.f43, hle.f42, hle.f44, hle.f186, hle.f188, hle.f35, hle.f36, hle.f37, hle.f178, hle.f180, hle.f1, hle.f2, hle.f3, hle.f4, hle.f5, hle.f153, hle.f154, hle.f155, hle.f156, hle.f157, hle.f164, hle.f165, hle.f166, hle.f81, hle.f84, hle.f85, hle.f86, hle.f87, hle.f137, hle.f175, hle.f174, hle.f191, hle.f11, hle.f12, hle.f13, hle.f14, hle.f15, hle.f16, hle.f17, hle.f80, hle.f138, hle.f141, hle.f143, hle.f145, hle.f129, hle.f130, hle.f132, hle.f135, hle.f136, k129, k130, k132, k135, k11, k12, zset_self, k136 hle.a, k143 hle.dr, k174 hle.dr, k191 hle.dr, hin, i8m, hx, h0]
      fail
    · by_cases h1 : 126 < byN w i ∨ m < i
      · have hv : letV w = -1 := by
          have : letS (byN w) (i + 1) = none := by unfold letS; rw [hm]; simp only; rw [if_neg h0, if_pos h1]
          unfold letV
          rw [letS_n (by omega) this]
        rw [hv] at h
        simp (disch := first | omega | (simp (disch := omega) only [forall_eq', Value.category, or_true, true_or, Option.isSome_some, Option.getD_some, true_and, and_true, and_self, forall_const, reduceCtorEq, Bool.false_eq_true, ite_true, ite_false, reduceIte, Nat.reduceLT, Nat.reduceLeDiff, Nat.reduceEqDiff, Nat.reduceAdd, Nat.reduceMul, decide_true, decide_false, Bool.true_and, Bool.and_true, Bool.false_and, Bool.and_false, Bool.or_false, Bool.false_or, not_true_eq_false, not_false_eq_true, Classical.not_not, false_implies, implies_true, decide_eq_true_eq, decide_eq_false_iff_not, Bool.not_eq_true, Bool.not_eq_false, Bool.not_eq_eq_eq_not, Bool.and_eq_true, Bool.or_eq_true, Bool.not_true, Bool.not_false, exists_eq_left, Option.some.injEq, Value.int.injEq, Value.long.injEq, Value.ref.injEq, zofN, znr0, zvpN, nI_clamp, nI_ltI, nI_leI, nI_eq, nI_a1, zN_lt, zN_le, zN_gt, zN_ge, zN_eq, zN_m1, Nat.zero_le, zLE, zi_eq0, zi01b, zi01c, zlast, hin, i8m, hx, h0, h1])) only [sSeq, sIf, sSkip, sDecI, sDecL, sDecR, sSetI, sSetL, sInc, sRetI, sRetZ, sRetL, sRetR, sRetV, sScope, sPut, sPutL, sUpd, sSt, sStL, sStU, sStUL, sCpy, sCpyL, sCS, sCV, sSw, zsw, sBrk, xP, xCS, xCV, xNz, xI, xAnd, xOr, xNot, xT, xB, xInc, xPre, xIncL, xEq, eK, eV, eW, eR, eB, eU, eD, eT, eI, eAnd, eOr, eNot, eF, eFL, eFR, eA, eAL, eAR, eN, eCS, eCV, aN, aI, aL, aR, zen, zli, zlj, zlr, zob, rdI, rdL, rdR, zfk, List.cons_append, List.nil_append, List.set_cons_zero, List.set_cons_succ, List.take_succ_cons, List.take_zero, List.length_cons, List.length_nil, List.getElem?_cons_zero, List.getElem?_cons_succ, forall_eq', Value.category, or_true, true_or, Option.isSome_some, Option.getD_some, true_and, and_true, and_self, forall_const, reduceCtorEq, Bool.false_eq_true, ite_true, ite_false, reduceIte, Nat.reduceLT, Nat.reduceLeDiff, Nat.reduceEqDiff, Nat.reduceAdd, Nat.reduceMul, decide_true, decide_false, Bool.true_and, Bool.and_true, Bool.false_and, Bool.and_false, Bool.or_false, Bool.false_or, not_true_eq_false, not_false_eq_true, Classical.not_not, false_implies, implies_true, decide_eq_true_eq, decide_eq_false_iff_not, Bool.not_eq_true, Bool.not_eq_false, Bool.not_eq_eq_eq_not, Bool.and_eq_true, Bool.or_eq_true, Bool.not_true, Bool.not_false, exists_eq_left, Option.some.injEq, Value.int.injEq, Value.long.injEq, Value.ref.injEq, zFx0, zFx1, zFx2, zFx3, zFx4, zFx5, zFx6, zFx7, zFx8, zFx9, zFx10, zFx11, zFx12, zFx13, zFx14, zFm0, zFm1, zFm2, zFm3, zFm4, zofN, znr0, zvpN, nI_clamp, nI_ltI, nI_leI, nI_eq, nI_a1, zN_lt, zN_le, zN_gt, zN_ge, zN_eq, zN_m1, Nat.zero_le, zLE, zi_eq0, zi01b, zi01c, zlast, hle.f134, hle.f133, hle.f20, hle.f10, hle.f88, hle.f45, hle.f78, hle.f53, hle.f32, hle.f74, hle.f61, hle.f34, hle.f127, hle.f211, hle.f73, hle.f72, hle.f209, hle.f216, hle.f29, hle.f31, hle.f30, hle.f28, hle.f27, hle.f204, hle.f205, hle.f76, hle.f77, hle.f217, hle.f187, hle.f43, hle.f42, hle.f44, hle.f186, hle.f188, hle.f35, hle.f36, hle.f37, hle.f178, hle.f180, hle.f1, hle.f2, hle.f3, hle.f4, hle.f5, hle.f153, hle.f154, hle.f155, hle.f156, hle.f157, hle.f164, hle.f165, hle.f166, hle.f81, hle.f84, hle.f85, hle.f86, hle.f87, hle.f137, hle.f175, hle.f174, hle.f191, hle.f11, hle.f12, hle.f13, hle.f14, hle.f15, hle.f16, hle.f17, hle.f80, hle.f138, hle.f141, hle.f143, hle.f145, hle.f129, hle.f130, hle.f132, hle.f135, hle.f136, k129, k130, k132, k135, k11, k12, zset_self, k136 hle.a, k143 hle.dr, k174 hle.dr, k191 hle.dr, hin, i8m, hx, h0, h1]
        fail
      · have hN := hNx _ hin ⟨m + 1, rfl, by unfold letS; rw [hm]; simp only; rw [if_neg h0, if_neg h1]⟩
        simp (disch := first | omega | (simp (disch := omega) only [forall_eq', Value.category, or_true, true_or, Option.isSome_some, Option.getD_some, true_and, and_true, and_self, forall_const, reduceCtorEq, Bool.false_eq_true, ite_true, ite_false, reduceIte, Nat.reduceLT, Nat.reduceLeDiff, Nat.reduceEqDiff, Nat.reduceAdd, Nat.reduceMul, decide_true, decide_false, Bool.true_and, Bool.and_true, Bool.false_and, Bool.and_false, Bool.or_false, Bool.false_or, not_true_eq_false, not_false_eq_true, Classical.not_not, false_implies, implies_true, decide_eq_true_eq, decide_eq_false_iff_not, Bool.not_eq_true, Bool.not_eq_false, Bool.not_eq_eq_eq_not, Bool.and_eq_true, Bool.or_eq_true, Bool.not_true, Bool.not_false, exists_eq_left, Option.some.injEq, Value.int.injEq, Value.long.injEq, Value.ref.injEq, zofN, znr0, zvpN, nI_clamp, nI_ltI, nI_leI, nI_eq, nI_a1, zN_lt, zN_le, zN_gt, zN_ge, zN_eq, zN_m1, Nat.zero_le, zLE, zi_eq0, zi01b, zi01c, zlast, hin, i8m, hx, h0, h1])) only [sSeq, sIf, sSkip, sDecI, sDecL, sDecR, sSetI, sSetL, sInc, sRetI, sRetZ, sRetL, sRetR, sRetV, sScope, sPut, sPutL, sUpd, sSt, sStL, sStU, sStUL, sCpy, sCpyL, sCS, sCV, sSw, zsw, sBrk, xP, xCS, xCV, xNz, xI, xAnd, xOr, xNot, xT, xB, xInc, xPre, xIncL, xEq, eK, eV, eW, eR, eB, eU, eD, eT, eI, eAnd, eOr, eNot, eF, eFL, eFR, eA, eAL, eAR, eN, eCS, eCV, aN, aI, aL, aR, zen, zli, zlj, zlr, zob, rdI, rdL, rdR, zfk, List.cons_append, List.nil_append, List.set_cons_zero, List.set_cons_succ, List.take_succ_cons, List.take_zero, List.length_cons, List.length_nil, List.getElem?_cons_zero, List.getElem?_cons_succ, forall_eq', Value.category, or_true, true_or, Option.isSome_some, Option.getD_some, true_and, and_true, and_self, forall_const, reduceCtorEq, Bool.false_eq_true, ite_true, ite_false, reduceIte, Nat.reduceLT, Nat.reduceLeDiff, Nat.reduceEqDiff, Nat.reduceAdd, Nat.reduceMul, decide_true, decide_false, Bool.true_and, Bool.and_true, Bool.false_and, Bool.and_false, Bool.or_false, Bool.false_or, not_true_eq_false, not_false_eq_true, Classical.not_not, false_implies, implies_true, decide_eq_true_eq, decide_eq_false_iff_not, Bool.not_eq_true, Bool.not_eq_false, Bool.not_eq_eq_eq_not, Bool.and_eq_true, Bool.or_eq_true, Bool.not_true, Bool.not_false, exists_eq_left, Option.some.injEq, Value.int.injEq, Value.long.injEq, Value.ref.injEq, zFx0, zFx1, zFx2, zFx3, zFx4, zFx5, zFx6, zFx7, zFx8, zFx9, zFx10, zFx11, zFx12, zFx13, zFx14, zFm0, zFm1, zFm2, zFm3, zFm4, zofN, znr0, zvpN, nI_clamp, nI_ltI, nI_leI, nI_eq, nI_a1, zN_lt, zN_le, zN_gt, zN_ge, zN_eq, zN_m1, Nat.zero_le, zLE, zi_eq0, zi01b, zi01c, zlast, hle.f134, hle.f133, hle.f20, hle.f10, hle.f88, hle.f45, hle.f78, hle.f53, hle.f32, hle.f74, hle.f61, hle.f34, hle.f127, hle.f211, hle.f73, hle.f72, hle.f209, hle.f216, hle.f29, hle.f31, hle.f30, hle.f28, hle.f27, hle.f204, hle.f205, hle.f76, hle.f77, hle.f217, hle.f187, hle.f43, hle.f42, hle.f44, hle.f186, hle.f188, hle.f35, hle.f36, hle.f37, hle.f178, hle.f180, hle.f1, hle.f2, hle.f3, hle.f4, hle.f5, hle.f153, hle.f154, hle.f155, hle.f156, hle.f157, hle.f164, hle.f165, hle.f166, hle.f81, hle.f84, hle.f85, hle.f86, hle.f87, hle.f137, hle.f175, hle.f174, hle.f191, hle.f11, hle.f12, hle.f13, hle.f14, hle.f15, hle.f16, hle.f17, hle.f80, hle.f138, hle.f141, hle.f143, hle.f145, hle.f129, hle.f130, hle.f132, hle.f135, hle.f136, k129, k130, k132, k135, k11, k12, zset_self, k136 hle.a, k143 hle.dr, k174 hle.dr, k191 hle.dr, hin, i8m, hx, h0, h1]
        fail
  · have e : i = 8 := by omega
    subst e
    unfold letV at h
    rw [hm] at h
    simp (disch := first | omega | (simp (disch := omega) only [forall_eq', Value.category, or_true, true_or, Option.isSome_some, Option.getD_some, true_and, and_true, and_self, forall_const, reduceCtorEq, Bool.false_eq_true, ite_true, ite_false, reduceIte, Nat.reduceLT, Nat.reduceLeDiff, Nat.reduceEqDiff, Nat.reduceAdd, Nat.reduceMul, decide_true, decide_false, Bool.true_and, Bool.and_true, Bool.false_and, Bool.and_false, Bool.or_false, Bool.false_or, not_true_eq_false, not_false_eq_true, Classical.not_not, false_implies, implies_true, decide_eq_true_eq, decide_eq_false_iff_not, Bool.not_eq_true, Bool.not_eq_false, Bool.not_eq_eq_eq_not, Bool.and_eq_true, Bool.or_eq_true, Bool.not_true, Bool.not_false, exists_eq_left, Option.some.injEq, Value.int.injEq, Value.long.injEq, Value.ref.injEq, zofN, znr0, zvpN, nI_clamp, nI_ltI, nI_leI, nI_eq, nI_a1, zN_lt, zN_le, zN_gt, zN_ge, zN_eq, zN_m1, Nat.zero_le, zLE, zi_eq0, zi01b, zi01c, zlast])) only [sSeq, sIf, sSkip, sDecI, sDecL, sDecR, sSetI, sSetL, sInc, sRetI, sRetZ, sRetL, sRetR, sRetV, sScope, sPut, sPutL, sUpd, sSt, sStL, sStU, sStUL, sCpy, sCpyL, sCS, sCV, sSw, zsw, sBrk, xP, xCS, xCV, xNz, xI, xAnd, xOr, xNot, xT, xB, xInc, xPre, xIncL, xEq, eK, eV, eW, eR, eB, eU, eD, eT, eI, eAnd, eOr, eNot, eF, eFL, eFR, eA, eAL, eAR, eN, eCS, eCV, aN, aI, aL, aR, zen, zli, zlj, zlr, zob, rdI, rdL, rdR, zfk, List.cons_append, List.nil_append, List.set_cons_zero, List.set_cons_succ, List.take_succ_cons, List.take_zero, List.length_cons, List.length_nil, List.getElem?_cons_zero, List.getElem?_cons_succ, forall_eq', Value.category, or_true, true_or, Option.isSome_some, Option.getD_some, true_and, and_true, and_self, forall_const, reduceCtorEq, Bool.false_eq_true, ite_true, ite_false, reduceIte, Nat.reduceLT, Nat.reduceLeDiff, Nat.reduceEqDiff, Nat.reduceAdd, Nat.reduceMul, decide_true, decide_false, Bool.true_and, Bool.and_true, Bool.false_and, Bool.and_false, Bool.or_false, Bool.false_or, not_true_eq_false, not_false_eq_true, Classical.not_not, false_implies, implies_true, decide_eq_true_eq, decide_eq_false_iff_not, Bool.not_eq_true, Bool.not_eq_false, Bool.not_eq_eq_eq_not, Bool.and_eq_true, Bool.or_eq_true, Bool.not_true, Bool.not_false, exists_eq_left, Option.some.injEq, Value.int.injEq, Value.long.injEq, Value.ref.injEq, zFx0, zFx1, zFx2, zFx3, zFx4, zFx5, zFx6, zFx7, zFx8, zFx9, zFx10, zFx11, zFx12, zFx13, zFx14, zFm0, zFm1, zFm2, zFm3, zFm4, zofN, znr0, zvpN, nI_clamp, nI_ltI, nI_leI, nI_eq, nI_a1, zN_lt, zN_le, zN_gt, zN_ge, zN_eq, zN_m1, Nat.zero_le, zLE, zi_eq0, zi01b, zi01c, zlast, hle.f134, hle.f133, hle.f20, hle.f10, hle.f88, hle.f45, hle.f78, hle.f53, hle.f32, hle.f74, hle.f61, hle.f34, hle.f127, hle.f211, hle.f73, hle.f72, hle.f209, hle.f216, hle.f29, hle.f31, hle.f30, hle.f28, hle.f27, hle.f204, hle.f205, hle.f76, hle.f77, hle.f217, hle.f187, hle.f43, hle.f42, hle.f44, hle.f186, hle.f188, hle.f35, hle.f36, hle.f37, hle.f178, hle.f180, hle.f1, hle.f2, hle.f3, hle.f4, hle.f5, hle.f153, hle.f154, hle.f155, hle.f156, hle.f157, hle.f164, hle.f165, hle.f166, hle.f81, hle.f84, hle.f85, hle.f86, hle.f87, hle.f137, hle.f175, hle.f174, hle.f191, hle.f11, hle.f12, hle.f13, hle.f14, hle.f15, hle.f16, hle.f17, hle.f80, hle.f138, hle.f141, hle.f143, hle.f145, hle.f129, hle.f130, hle.f132, hle.f135, hle.f136, k129, k130, k132, k135, k11, k12, zset_self, k136 hle.a, k143 hle.dr, k174 hle.dr, k191 hle.dr]
    exact h
theorem k54 {c : Int32} (hle : Fle F) (hx : μ.1 16 1 = nI n) (hn : n < 40) (h : P none (zset (zset μ 16 1 (nI (n + 1))) 17 n c)) : KK Zx F (d + 1) 54 [.ref 16, .int c] μ P := by
  refine KK_in bd_54 rfl (Nat.le_of_ble_eq_true rfl) ?_; simp (disch := first | omega | (simp (disch := omega) only [forall_eq', Value.category, or_true, true_or, Option.isSome_some, Option.getD_some, true_and, and_true, and_self, forall_const, reduceCtorEq, Bool.false_eq_true, ite_true, ite_false, reduceIte, Nat.reduceLT, Nat.reduceLeDiff, Nat.reduceEqDiff, Nat.reduceAdd, Nat.reduceMul, decide_true, decide_false, Bool.true_and, Bool.and_true, Bool.false_and, Bool.and_false, Bool.or_false, Bool.false_or, not_true_eq_false, not_false_eq_true, Classical.not_not, false_implies, implies_true, decide_eq_true_eq, decide_eq_false_iff_not, Bool.not_eq_true, Bool.not_eq_false, Bool.not_eq_eq_eq_not, Bool.and_eq_true, Bool.or_eq_true, Bool.not_true, Bool.not_false, exists_eq_left, Option.some.injEq, Value.int.injEq, Value.long.injEq, Value.ref.injEq, zofN, znr0, zvpN, nI_clamp, nI_ltI, nI_leI, nI_eq, nI_a1, zN_lt, zN_le, zN_gt, zN_ge, zN_eq, zN_m1, Nat.zero_le, zLE, zi_eq0, zi01b, zi01c, zlast, hx, hn])) only [bd_54, sSeq, sIf, sSkip, sDecI, sDecL, sDecR, sSetI, sSetL, sInc, sRetI, sRetZ, sRetL, sRetR, sRetV, sScope, sPut, sPutL, sUpd, sSt, sStL, sStU, sStUL, sCpy, sCpyL, sCS, sCV, sSw, zsw, sBrk, xP, xCS, xCV, xNz, xI, xAnd, xOr, xNot, xT, xB, xInc, xPre, xIncL, xEq, eK, eV, eW, eR, eB, eU, eD, eT, eI, eAnd, eOr, eNot, eF, eFL, eFR, eA, eAL, eAR, eN, eCS, eCV, aN, aI, aL, aR, zen, zli, zlj, zlr, zob, rdI, rdL, rdR, zfk, List.cons_append, List.nil_append, List.set_cons_zero, List.set_cons_succ, List.take_succ_cons, List.take_zero, List.length_cons, List.length_nil, List.getElem?_cons_zero, List.getElem?_cons_succ, forall_eq', Value.category, or_true, true_or, Option.isSome_some, Option.getD_some, true_and, and_true, and_self, forall_const, reduceCtorEq, Bool.false_eq_true, ite_true, ite_false, reduceIte, Nat.reduceLT, Nat.reduceLeDiff, Nat.reduceEqDiff, Nat.reduceAdd, Nat.reduceMul, decide_true, decide_false, Bool.true_and, Bool.and_true, Bool.false_and, Bool.and_false, Bool.or_false, Bool.false_or, not_true_eq_false, not_false_eq_true, Classical.not_not, false_implies, implies_true, decide_eq_true_eq, decide_eq_false_iff_not, Bool.not_eq_true, Bool.not_eq_false, Bool.not_eq_eq_eq_not, Bool.and_eq_true, Bool.or_eq_true, Bool.not_true, Bool.not_false, exists_eq_left, Option.some.injEq, Value.int.injEq, Value.long.injEq, Value.ref.injEq, zFx0, zFx1, zFx2, zFx3, zFx4, zFx5, zFx6, zFx7, zFx8, zFx9, zFx10, zFx11, zFx12, zFx13, zFx14, zFm0, zFm1, zFm2, zFm3, zFm4, zofN, znr0, zvpN, nI_clamp, nI_ltI, nI_leI, nI_eq, nI_a1, zN_lt, zN_le, zN_gt, zN_ge, zN_eq, zN_m1, Nat.zero_le, zLE, zi_eq0, zi01b, zi01c, zlast, hle.f134, hle.f133, hle.f20, hle.f10, hle.f88, hle.f45, hle.f78, hle.f53, hle.f32, hle.f74, hle.f61, hle.f34, hle.f127, hle.f211, hle.f73, hle.f72, hle.f209, hle.f216, hle.f29, hle.f31, hle.f30, hle.f28, hle.f27, hle.f204, hle.f205, hle.f76, hle.f77, hle.f217, hle.f187, hle.f43, hle.f42, hle.f44, hle.f186, hle.f188, hle.f35, hle.f36, hle.f37, hle.f178, hle.f180, hle.f1, hle.f2, hle.f3, hle.f4, hle.f5, hle.f153, hle.f154, hle.f155, hle.f156, hle.f157, hle.f164, hle.f165, hle.f166, hle.f81, hle.f84, hle.f85, hle.f86, hle.f87, hle.f137, hle.f175, hle.f174, hle.f191, hle.f11, hle.f12, hle.f13, hle.f14, hle.f15, hle.f16, hle.f17, hle.f80, hle.f138, hle.f141, hle.f143, hle.f145, hle.f129, hle.f130, hle.f132, hle.f135, hle.f136, k129, k130, k132, k135, k11, k12, zset_self, k136 hle.a, k143 hle.dr, k174 hle.dr, k191 hle.dr, hx, hn]
  fail
end KE1
