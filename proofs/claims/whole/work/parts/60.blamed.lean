/-! LAYER B: blamed, called -/
theorem an_or {x a b : Int32} : x &&& (a ||| b) = 0 ↔ x &&& a = 0 ∧ x &&& b = 0 := by
  have key : ∀ y : Int32, y = 0 ↔ ∀ i, i < 32 → bt y i = false := fun y => ⟨fun h i _ => by rw [h]; exact b_0 i, fun h => b_ext fun i hi => by rw [h i hi, b_0]⟩
  rw [key, key (x &&& a), key (x &&& b)]
  constructor
  · intro h
    refine ⟨fun i hi => ?_, fun i hi => ?_⟩
    · have := h i hi
      rw [b_and, b_or] at this
      rw [b_and]
      cases h1 : bt x i <;> cases h2 : bt a i <;> simp_all
    · have := h i hi
      rw [b_and, b_or] at this
      rw [b_and]
      cases h1 : bt x i <;> cases h2 : bt b i <;> simp_all
  · rintro ⟨h, g⟩ i hi
    have h1 := h i hi
    have g1 := g i hi
    rw [b_and] at h1 g1 ⊢
    rw [b_or]
    cases h1 : bt x i <;> simp_all
theorem an_1 (x : Int32) : x &&& 1 = 0 ∨ x &&& 1 = 1 := by
  have h1 : ∀ i, i < 32 → bt 1 i = decide (i = 0) := by decide +kernel
  by_cases h : bt x 0 = true
  · right
    refine b_ext fun i hi => ?_
    rw [b_and, h1 i hi]
    by_cases e : i = 0
    · subst e; simp [h]
    · simp [e]
  · left
    rw [Bool.not_eq_true] at h
    refine b_ext fun i hi => ?_
    rw [b_and, h1 i hi, b_0]
    by_cases e : i = 0
    · subst e; simp [h]
    · simp [e]
theorem an_1b (x : Int32) : (x &&& 1 = 1) = ¬ (x &&& 1 = 0) := by
  apply propext
  rcases an_1 x with h | h <;> rw [h] <;> decide
def popc (n : Nat) : Nat := n % 2 + n / 2 % 2 + n / 4 % 2 + n / 8 % 2 + n / 16 % 2 + n / 32 % 2 + n / 64 % 2 + n / 128 % 2 + n / 256 % 2 + n / 512 % 2 + n / 1024 % 2 + n / 2048 % 2
theorem pop_le (n : Nat) : popc n ≤ 12 := by unfold popc; omega
theorem pop_lt (n : Nat) : popc n < 2 ^ 31 := by have := pop_le n; omega
theorem pop_s0 : ∀ a, a < 64 → ∀ b, b < 64 → 64 * a + b ≠ 0 → popc ((64 * a + b) &&& (64 * a + b - 1)) + 1 = popc (64 * a + b) ∧ (64 * a + b) &&& (64 * a + b - 1) < 64 * a + b := by decide +kernel
theorem pop_s {n : Nat} (h : n < 4096) (h0 : n ≠ 0) : popc (n &&& (n - 1)) + 1 = popc n ∧ n &&& (n - 1) < n := by
  have := pop_s0 (n / 64) (by omega) (n % 64) (by omega)
  rw [show 64 * (n / 64) + n % 64 = n by omega] at this
  exact this h0
def u32 (x k : Int32) : Int32 := (x.toUInt32 >>> (k.toUInt32 &&& Int32.toUInt32 31)).toInt32
def bc1 (x : Int32) : Int32 := x - (u32 x 1 &&& 1431655765)
def bc2 (x : Int32) : Int32 := (x &&& 858993459) + (u32 x 2 &&& 858993459)
def bc3 (x : Int32) : Int32 := (x + u32 x 4) &&& 252645135
def bc4 (x : Int32) : Int32 := x + u32 x 8
def bc5 (x : Int32) : Int32 := x + u32 x 16
theorem bc_0 : ∀ a, a < 64 → ∀ b, b < 64 → bc5 (bc4 (bc3 (bc2 (bc1 (nI (64 * a + b)))))) &&& 63 = nI (popc (64 * a + b)) := by decide +kernel
theorem bc_p {n : Nat} (h : n < 4096) : bc5 (bc4 (bc3 (bc2 (bc1 (nI n))))) &&& 63 = nI (popc n) := by
  have := bc_0 (n / 64) (by omega) (n % 64) (by omega)
  rwa [show 64 * (n / 64) + n % 64 = n by omega] at this
theorem sq_set {i : Nat} {e : PE Int32} {r : ZSt} {σ : ZS} {N : ZS → Prop} {P : Option Value → ZM → Prop} {B : Nat → ZS → Prop} (x : Int32) (h1 : (e σ).1) (h2 : (zli σ.1 i).isSome = true) (hx : (e σ).2 = x) (h3 : r (σ.1.set i (.int x), σ.2) N P B) : sSeq (sSetI i (xP e)) r σ N P B := ⟨h1, h2, by rw [hx]; exact h3⟩
def orS (f : Nat → Int32) : Nat → Int32
  | 0 => 0
  | k + 1 => orS f k ||| f k
theorem orS_c {n : Nat} {f g : Nat → Int32} (h : ∀ i, i < n → f i = g i) : orS f n = orS g n := by
  induction n with
  | zero => rfl
  | succ n ih => unfold orS; rw [ih fun t ht => h t (by omega), h n (by omega)]
theorem an_orS {x : Int32} {f : Nat → Int32} {n : Nat} : x &&& orS f n = 0 ↔ ∀ i, i < n → x &&& f i = 0 := by
  induction n with
  | zero => simp [orS]
  | succ n ih =>
    unfold orS
    rw [an_or, ih]
    constructor
    · rintro ⟨h1, h2⟩ i hi
      by_cases e : i = n
      · rw [e]; exact h2
      · exact h1 i (by omega)
    · intro h
      exact ⟨fun i hi => h i (by omega), h n (by omega)⟩
def lotX (μ : ZM) (m : Nat) : Int32 := orS (fun p => if 0 ≤ μ.1 (126 + m) p ∧ μ.1 (126 + m) p < μ.1 61 0 then (1 : Int32) <<< (μ.1 63 (μ.1 (126 + m) p).toNatClampNeg &&& 31) else 0) 8
def lotM (ν : ZM) (m : Nat) : Int32 := orS (fun p => if ν.1 18 (8 * m + p) = -1 then 0 else (1 : Int32) <<< (ν.1 14 (ν.1 18 (8 * m + p)).toNatClampNeg &&& 31)) 8
def expX (μ : ZM) (s : Int32) : Bool := allB 6 (fun m => !(decide (μ.1 133 m = 1) && decide (s &&& μ.1 134 m = 0)))
def cndM (ν : ZM) (s : Int32) (m : Nat) : Bool := if ν.1 19 m = 1 then (!decide (ν.1 19 m = 0) && !decide (lotM ν m &&& s = 0)) else !(!decide (ν.1 19 m = 0) && !decide (lotM ν m &&& s = 0))
def bstS (ok : Nat → Bool) : Nat → Int32
  | 0 => -1
  | s + 1 => if ok s = true ∧ (bstS ok s = -1 ∨ popc s < popc (bstS ok s).toNatClampNeg) then nI s else bstS ok s
theorem bst_v (ok : Nat → Bool) {n : Nat} (h : n ≤ 4096) : bstS ok n = -1 ∨ ∃ b, b < n ∧ bstS ok n = nI b := by
  induction n with
  | zero => exact Or.inl rfl
  | succ n ih =>
    unfold bstS
    split
    · exact Or.inr ⟨n, by omega, rfl⟩
    · rcases ih (by omega) with h | ⟨b, hb, e⟩
      · exact Or.inl h
      · exact Or.inr ⟨b, by omega, e⟩
theorem bst_c {ok ok' : Nat → Bool} {n : Nat} (h : ∀ i, i < n → ok i = ok' i) : bstS ok n = bstS ok' n := by
  induction n with
  | zero => rfl
  | succ n ih => unfold bstS; rw [ih fun t ht => h t (by omega), h n (by omega)]
def Fbl (F : ZFt) : Prop := Fri F ∧ (∀ x μ, F 217 [.int x] μ = .int (nI (popc x.toNatClampNeg))) ∧ (∀ x μ, F 187 [.int x] μ = .int (nI (popc x.toNatClampNeg))) ∧ (∀ m μ, F 43 [.ref 124, .int m, .ref 61] μ = .int (lotX μ m.toNatClampNeg)) ∧ (∀ s μ, F 42 [.ref 124, .int s] μ = .int (zi (expX μ s))) ∧ (∀ s μ, F 44 [.ref 124, .int s, .ref 61] μ = .int (bitS (fun m => !decide (lotX μ m &&& s = 0)) 6)) ∧ (∀ m μ, F 186 [.ref 0, .int m] μ = .int (lotM μ m.toNatClampNeg)) ∧ (∀  μ, F 188 [.ref 0] μ = .int (bstS (fun s => allB 6 (cndM μ (nI s))) 4096))
theorem Fbl.f217 {F : ZFt} (h : Fbl F) : ∀ x μ, F 217 [.int x] μ = .int (nI (popc x.toNatClampNeg)) := h.2.1
theorem Fbl.f187 {F : ZFt} (h : Fbl F) : ∀ x μ, F 187 [.int x] μ = .int (nI (popc x.toNatClampNeg)) := h.2.2.1
theorem Fbl.f43 {F : ZFt} (h : Fbl F) : ∀ m μ, F 43 [.ref 124, .int m, .ref 61] μ = .int (lotX μ m.toNatClampNeg) := h.2.2.2.1
theorem Fbl.f42 {F : ZFt} (h : Fbl F) : ∀ s μ, F 42 [.ref 124, .int s] μ = .int (zi (expX μ s)) := h.2.2.2.2.1
theorem Fbl.f44 {F : ZFt} (h : Fbl F) : ∀ s μ, F 44 [.ref 124, .int s, .ref 61] μ = .int (bitS (fun m => !decide (lotX μ m &&& s = 0)) 6) := h.2.2.2.2.2.1
theorem Fbl.f186 {F : ZFt} (h : Fbl F) : ∀ m μ, F 186 [.ref 0, .int m] μ = .int (lotM μ m.toNatClampNeg) := h.2.2.2.2.2.2.1
theorem Fbl.f188 {F : ZFt} (h : Fbl F) : ∀  μ, F 188 [.ref 0] μ = .int (bstS (fun s => allB 6 (cndM μ (nI s))) 4096) := h.2.2.2.2.2.2.2
theorem Fbl.ri {F : ZFt} (h : Fbl F) : Fri F := h.1
def Fbl.f35 {F : ZFt} (h : Fbl F) := (h.1).f35
def Fbl.f36 {F : ZFt} (h : Fbl F) := (h.1).f36
def Fbl.f37 {F : ZFt} (h : Fbl F) := (h.1).f37
def Fbl.f178 {F : ZFt} (h : Fbl F) := (h.1).f178
def Fbl.f180 {F : ZFt} (h : Fbl F) := (h.1).f180
theorem Fbl.ch {F : ZFt} (h : Fbl F) : Fch F := h.1.1
def Fbl.f1 {F : ZFt} (h : Fbl F) := (h.1.1).f1
def Fbl.f2 {F : ZFt} (h : Fbl F) := (h.1.1).f2
def Fbl.f3 {F : ZFt} (h : Fbl F) := (h.1.1).f3
def Fbl.f4 {F : ZFt} (h : Fbl F) := (h.1.1).f4
def Fbl.f5 {F : ZFt} (h : Fbl F) := (h.1.1).f5
def Fbl.f153 {F : ZFt} (h : Fbl F) := (h.1.1).f153
def Fbl.f154 {F : ZFt} (h : Fbl F) := (h.1.1).f154
def Fbl.f155 {F : ZFt} (h : Fbl F) := (h.1.1).f155
def Fbl.f156 {F : ZFt} (h : Fbl F) := (h.1.1).f156
def Fbl.f157 {F : ZFt} (h : Fbl F) := (h.1.1).f157
theorem Fbl.kn {F : ZFt} (h : Fbl F) : Fkn F := h.1.1.1
def Fbl.f164 {F : ZFt} (h : Fbl F) := (h.1.1.1).f164
def Fbl.f165 {F : ZFt} (h : Fbl F) := (h.1.1.1).f165
def Fbl.f166 {F : ZFt} (h : Fbl F) := (h.1.1.1).f166
def Fbl.f81 {F : ZFt} (h : Fbl F) := (h.1.1.1).f81
def Fbl.f84 {F : ZFt} (h : Fbl F) := (h.1.1.1).f84
def Fbl.f85 {F : ZFt} (h : Fbl F) := (h.1.1.1).f85
def Fbl.f86 {F : ZFt} (h : Fbl F) := (h.1.1.1).f86
def Fbl.f87 {F : ZFt} (h : Fbl F) := (h.1.1.1).f87
theorem Fbl.ma {F : ZFt} (h : Fbl F) : Fma F := h.1.1.1.1
def Fbl.f137 {F : ZFt} (h : Fbl F) := (h.1.1.1.1).f137
def Fbl.f175 {F : ZFt} (h : Fbl F) := (h.1.1.1.1).f175
theorem Fbl.sm {F : ZFt} (h : Fbl F) : Fsm F := h.1.1.1.1.1
def Fbl.f174 {F : ZFt} (h : Fbl F) := (h.1.1.1.1.1).f174
def Fbl.f191 {F : ZFt} (h : Fbl F) := (h.1.1.1.1.1).f191
theorem Fbl.dr {F : ZFt} (h : Fbl F) : Fdr F := h.1.1.1.1.1.1
def Fbl.f11 {F : ZFt} (h : Fbl F) := (h.1.1.1.1.1.1).f11
def Fbl.f12 {F : ZFt} (h : Fbl F) := (h.1.1.1.1.1.1).f12
def Fbl.f13 {F : ZFt} (h : Fbl F) := (h.1.1.1.1.1.1).f13
def Fbl.f14 {F : ZFt} (h : Fbl F) := (h.1.1.1.1.1.1).f14
def Fbl.f15 {F : ZFt} (h : Fbl F) := (h.1.1.1.1.1.1).f15
def Fbl.f16 {F : ZFt} (h : Fbl F) := (h.1.1.1.1.1.1).f16
def Fbl.f17 {F : ZFt} (h : Fbl F) := (h.1.1.1.1.1.1).f17
def Fbl.f80 {F : ZFt} (h : Fbl F) := (h.1.1.1.1.1.1).f80
def Fbl.f138 {F : ZFt} (h : Fbl F) := (h.1.1.1.1.1.1).f138
def Fbl.f141 {F : ZFt} (h : Fbl F) := (h.1.1.1.1.1.1).f141
def Fbl.f143 {F : ZFt} (h : Fbl F) := (h.1.1.1.1.1.1).f143
def Fbl.f145 {F : ZFt} (h : Fbl F) := (h.1.1.1.1.1.1).f145
theorem Fbl.a {F : ZFt} (h : Fbl F) : Fa F := h.1.1.1.1.1.1.a
def Fbl.f129 {F : ZFt} (h : Fbl F) := (h.1.1.1.1.1.1.a).f129
def Fbl.f130 {F : ZFt} (h : Fbl F) := (h.1.1.1.1.1.1.a).f130
def Fbl.f132 {F : ZFt} (h : Fbl F) := (h.1.1.1.1.1.1.a).f132
def Fbl.f135 {F : ZFt} (h : Fbl F) := (h.1.1.1.1.1.1.a).f135
def Fbl.f136 {F : ZFt} (h : Fbl F) := (h.1.1.1.1.1.1.a).f136
section KV
variable {F : ZFt} {d : Nat} {μ ν : ZM} {P : Option Value → ZM → Prop} {nt nc : Nat} {Z : List ZD}
theorem k217 {n : Nat} (hn : n < 4096) (h : P (some (.int (nI (popc n)))) μ) : KK Z F (d + 1) 217 [.int (nI n)] μ P := by
  rw [← bc_p hn] at h
  refine KK_in bd_217 rfl (Nat.le_of_ble_eq_true rfl) ?_
  unfold bd_217
  refine sq_set (bc1 (nI n)) ⟨rfl, ⟨rfl, trivial⟩, trivial⟩ rfl rfl ?_
  refine sq_set (bc2 (bc1 (nI n))) ⟨⟨rfl, trivial⟩, ⟨rfl, trivial⟩, trivial⟩ rfl rfl ?_
  refine sq_set (bc3 (bc2 (bc1 (nI n)))) ⟨⟨rfl, rfl, trivial⟩, trivial⟩ rfl rfl ?_
  refine sq_set (bc4 (bc3 (bc2 (bc1 (nI n))))) ⟨rfl, rfl, trivial⟩ rfl rfl ?_
  refine sq_set (bc5 (bc4 (bc3 (bc2 (bc1 (nI n)))))) ⟨rfl, rfl, trivial⟩ rfl rfl ?_
  exact ⟨⟨rfl, trivial⟩, h⟩
theorem k187 {n : Nat} (hn : n < 4096) (h : P (some (.int (nI (popc n)))) μ) : KK Z F (d + 1) 187 [.int (nI n)] μ P := by
  refine KK_in bd_187 rfl (Nat.le_of_ble_eq_true rfl) ?_
  simp (disch := omega) only [bd_187, sSeq, sIf, sSkip, sDecI, sDecL, sDecR, sSetI, sSetL, sInc, sRetI, sRetZ, sRetL, sRetR, sRetV, sScope, sPut, sPutL, sUpd, sSt, sStL, sStU, sStUL, sCpy, sCpyL, sCS, sCV, sSw, zsw, sBrk, xP, xCS, xCV, xNz, xI, xAnd, xOr, xNot, xT, xB, xInc, xPre, xIncL, xEq, eK, eV, eW, eR, eB, eU, eD, eT, eI, eAnd, eOr, eNot, eF, eFL, eFR, eA, eAL, eAR, eN, eCS, eCV, aN, aI, aL, aR, zen, zli, zlj, zlr, zob, rdI, rdL, rdR, zfk, List.cons_append, List.nil_append, List.set_cons_zero, List.set_cons_succ, List.take_succ_cons, List.take_zero, List.length_cons, List.length_nil, List.getElem?_cons_zero, List.getElem?_cons_succ, forall_eq', Value.category, or_true, true_or, Option.isSome_some, Option.getD_some, true_and, and_true, and_self, forall_const, reduceCtorEq, Bool.false_eq_true, ite_true, ite_false, reduceIte, Nat.reduceLT, Nat.reduceLeDiff, Nat.reduceEqDiff, Nat.reduceAdd, Nat.reduceMul, decide_true, decide_false, Bool.true_and, Bool.and_true, Bool.false_and, Bool.and_false, Bool.or_false, Bool.false_or, not_true_eq_false, not_false_eq_true, Classical.not_not, false_implies, implies_true, decide_eq_true_eq, decide_eq_false_iff_not, Bool.not_eq_true, Bool.not_eq_false, Bool.not_eq_eq_eq_not, Bool.and_eq_true, Bool.or_eq_true, Bool.not_true, Bool.not_false, exists_eq_left, Option.some.injEq, Value.int.injEq, Value.long.injEq, Value.ref.injEq, zFx0, zFx1, zFx2, zFx3, zFx4, zFx5, zFx6, zFx7, zFx8, zFx9, zFx10, zFx11, zFx12, zFx13, zFx14, zFm0, zFm1, zFm2, zFm3, zFm4, zofN, znr0, zvpN, nI_clamp, nI_ltI, nI_leI, nI_eq, nI_a1, zN_lt, zN_le, zN_gt, zN_ge, zN_eq, zN_m1, Nat.zero_le, zLE, zi_eq0, zi01b, zi01c, zlast]
  refine ⟨fun k σ => ∃ c l, σ = ([.int (nI n), .int (nI c), .int (nI l)], μ) ∧ l < 4096 ∧ c + popc l = popc n ∧ k = l, n, ⟨0, n, rfl, hn, by omega, rfl⟩, ?_⟩
  rintro k σ ⟨c, l, rfl, hl, hc, rfl⟩
  have hp := pop_le n
  by_cases h0 : k = 0
  · subst h0
    have e : c = popc n := by have : popc 0 = 0 := rfl; omega
    subst e
    simp (disch := omega) only [sSeq, sIf, sSkip, sDecI, sDecL, sDecR, sSetI, sSetL, sInc, sRetI, sRetZ, sRetL, sRetR, sRetV, sScope, sPut, sPutL, sUpd, sSt, sStL, sStU, sStUL, sCpy, sCpyL, sCS, sCV, sSw, zsw, sBrk, xP, xCS, xCV, xNz, xI, xAnd, xOr, xNot, xT, xB, xInc, xPre, xIncL, xEq, eK, eV, eW, eR, eB, eU, eD, eT, eI, eAnd, eOr, eNot, eF, eFL, eFR, eA, eAL, eAR, eN, eCS, eCV, aN, aI, aL, aR, zen, zli, zlj, zlr, zob, rdI, rdL, rdR, zfk, List.cons_append, List.nil_append, List.set_cons_zero, List.set_cons_succ, List.take_succ_cons, List.take_zero, List.length_cons, List.length_nil, List.getElem?_cons_zero, List.getElem?_cons_succ, forall_eq', Value.category, or_true, true_or, Option.isSome_some, Option.getD_some, true_and, and_true, and_self, forall_const, reduceCtorEq, Bool.false_eq_true, ite_true, ite_false, reduceIte, Nat.reduceLT, Nat.reduceLeDiff, Nat.reduceEqDiff, Nat.reduceAdd, Nat.reduceMul, decide_true, decide_false, Bool.true_and, Bool.and_true, Bool.false_and, Bool.and_false, Bool.or_false, Bool.false_or, not_true_eq_false, not_false_eq_true, Classical.not_not, false_implies, implies_true, decide_eq_true_eq, decide_eq_false_iff_not, Bool.not_eq_true, Bool.not_eq_false, Bool.not_eq_eq_eq_not, Bool.and_eq_true, Bool.or_eq_true, Bool.not_true, Bool.not_false, exists_eq_left, Option.some.injEq, Value.int.injEq, Value.long.injEq, Value.ref.injEq, zFx0, zFx1, zFx2, zFx3, zFx4, zFx5, zFx6, zFx7, zFx8, zFx9, zFx10, zFx11, zFx12, zFx13, zFx14, zFm0, zFm1, zFm2, zFm3, zFm4, zofN, znr0, zvpN, nI_clamp, nI_ltI, nI_leI, nI_eq, nI_a1, zN_lt, zN_le, zN_gt, zN_ge, zN_eq, zN_m1, Nat.zero_le, zLE, zi_eq0, zi01b, zi01c, zlast]
    grind
  · obtain ⟨h1, h2⟩ := pop_s hl h0
    have e1 : nI k - 1 = nI (k - 1) := by
      have := nI_pred (k - 1)
      rwa [show k - 1 + 1 = k by omega] at this
    simp (disch := omega) only [sSeq, sIf, sSkip, sDecI, sDecL, sDecR, sSetI, sSetL, sInc, sRetI, sRetZ, sRetL, sRetR, sRetV, sScope, sPut, sPutL, sUpd, sSt, sStL, sStU, sStUL, sCpy, sCpyL, sCS, sCV, sSw, zsw, sBrk, xP, xCS, xCV, xNz, xI, xAnd, xOr, xNot, xT, xB, xInc, xPre, xIncL, xEq, eK, eV, eW, eR, eB, eU, eD, eT, eI, eAnd, eOr, eNot, eF, eFL, eFR, eA, eAL, eAR, eN, eCS, eCV, aN, aI, aL, aR, zen, zli, zlj, zlr, zob, rdI, rdL, rdR, zfk, List.cons_append, List.nil_append, List.set_cons_zero, List.set_cons_succ, List.take_succ_cons, List.take_zero, List.length_cons, List.length_nil, List.getElem?_cons_zero, List.getElem?_cons_succ, forall_eq', Value.category, or_true, true_or, Option.isSome_some, Option.getD_some, true_and, and_true, and_self, forall_const, reduceCtorEq, Bool.false_eq_true, ite_true, ite_false, reduceIte, Nat.reduceLT, Nat.reduceLeDiff, Nat.reduceEqDiff, Nat.reduceAdd, Nat.reduceMul, decide_true, decide_false, Bool.true_and, Bool.and_true, Bool.false_and, Bool.and_false, Bool.or_false, Bool.false_or, not_true_eq_false, not_false_eq_true, Classical.not_not, false_implies, implies_true, decide_eq_true_eq, decide_eq_false_iff_not, Bool.not_eq_true, Bool.not_eq_false, Bool.not_eq_eq_eq_not, Bool.and_eq_true, Bool.or_eq_true, Bool.not_true, Bool.not_false, exists_eq_left, Option.some.injEq, Value.int.injEq, Value.long.injEq, Value.ref.injEq, zFx0, zFx1, zFx2, zFx3, zFx4, zFx5, zFx6, zFx7, zFx8, zFx9, zFx10, zFx11, zFx12, zFx13, zFx14, zFm0, zFm1, zFm2, zFm3, zFm4, zofN, znr0, zvpN, nI_clamp, nI_ltI, nI_leI, nI_eq, nI_a1, zN_lt, zN_le, zN_gt, zN_ge, zN_eq, zN_m1, Nat.zero_le, zLE, zi_eq0, zi01b, zi01c, zlast, e1, nx_and, h0]
    exact ⟨k &&& (k - 1), h2, c + 1, k &&& (k - 1), rfl, by omega, by omega, rfl⟩
end KV
