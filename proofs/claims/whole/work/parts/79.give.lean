/-! LAYER B: giveOut, the least of all words -/
/-- the grade of the part p in the word x of n places -/
def dg (n x p : Nat) : Nat := x / 4 ^ (n - 1 - p) % 4
theorem dg_lt (n x p : Nat) : dg n x p < 4 := Nat.mod_lt _ (by decide)
theorem dg_pre {n k x a p : Nat} (hk : k ≤ n) (hp : p < k) (hx : x / 4 ^ (n - k) = a) : dg n x p = dg k a p := by
  unfold dg
  subst hx
  rw [Nat.div_div_eq_div_mul, ← Nat.pow_add, show n - k + (k - 1 - p) = n - 1 - p by omega]
/-- one word more: s the best so far -/
def up1 (pc : Nat → Nat) (ok : Nat → Bool) (s : Option Nat) (x : Nat) : Option Nat :=
  if ok x = true ∧ (∀ y, s = some y → pc x < pc y) then some x else s
def rf (pc : Nat → Nat) (ok : Nat → Bool) (s : Option Nat) (lo : Nat) : Nat → Option Nat
  | 0 => s
  | l + 1 => up1 pc ok (rf pc ok s lo l) (lo + l)
theorem rf_add (pc : Nat → Nat) (ok : Nat → Bool) (s : Option Nat) (lo l1 : Nat) : ∀ l2, rf pc ok s lo (l1 + l2) = rf pc ok (rf pc ok s lo l1) (lo + l1) l2
  | 0 => rfl
  | l2 + 1 => by
    show up1 pc ok (rf pc ok s lo (l1 + l2)) (lo + (l1 + l2)) = up1 pc ok (rf pc ok (rf pc ok s lo l1) (lo + l1) l2) (lo + l1 + l2)
    rw [rf_add pc ok s lo l1 l2, Nat.add_assoc]
theorem rf_no {pc : Nat → Nat} {ok : Nat → Bool} {s : Option Nat} {lo : Nat} : ∀ {l : Nat}, (∀ x, lo ≤ x → x < lo + l → ok x = false ∨ ∃ y, s = some y ∧ pc y ≤ pc x) → rf pc ok s lo l = s
  | 0, _ => rfl
  | l + 1, h => by
    have e := rf_no (l := l) fun x a b => h x a (by omega)
    rw [rf, e]
    unfold up1
    refine if_neg fun z => ?_
    rcases h (lo + l) (by omega) (by omega) with a | ⟨y, a, b⟩
    · rw [z.1] at a
      cases a
    · have := z.2 y a
      omega
/-- what the first k places cost -/
def gpS (pr : Nat → Nat → Nat) (n k x : Nat) : Nat := nS k (fun p => pr p (dg n x p))
theorem nS_c {f g : Nat → Nat} : ∀ {n : Nat}, (∀ i, i < n → f i = g i) → nS n f = nS n g
  | 0, _ => rfl
  | n + 1, h => by rw [nS, nS, nS_c fun i hi => h i (by omega), h n (by omega)]
theorem gp_pre {pr : Nat → Nat → Nat} {n k x a : Nat} (hk : k ≤ n) (hx : x / 4 ^ (n - k) = a) : gpS pr n k x = gpS pr k k a := nS_c fun p hp => by rw [dg_pre hk hp hx]
theorem gp_le {pr : Nat → Nat → Nat} {n k x a : Nat} (hk : k ≤ n) (hx : x / 4 ^ (n - k) = a) : gpS pr k k a ≤ gpS pr n n x := by
  rw [← gp_pre hk hx]
  exact nS_mono hk
theorem rng {x a m : Nat} (h1 : a * 4 ^ m ≤ x) (h2 : x < a * 4 ^ m + 4 ^ m) : x / 4 ^ m = a := by
  have hp : 0 < 4 ^ m := Nat.pow_pos (by decide)
  have e1 : (a + 1) * 4 ^ m = a * 4 ^ m + 4 ^ m := Nat.succ_mul a _
  refine Nat.le_antisymm ?_ ((Nat.le_div_iff_mul_le hp).mpr h1)
  have := (Nat.div_lt_iff_lt_mul hp).mpr (show x < (a + 1) * 4 ^ m by omega)
  omega
/-- one place more: the word 4 a + g -/
theorem dg_s {k a g p : Nat} (hg : g < 4) (hp : p ≤ k) : dg (k + 1) (4 * a + g) p = if p = k then g else dg k a p := by
  by_cases e : p = k
  · subst e
    unfold dg
    rw [if_pos rfl, show p + 1 - 1 - p = 0 by omega, Nat.pow_zero, Nat.div_one]
    omega
  · rw [if_neg e]
    refine dg_pre (n := k + 1) (by omega) (by omega) ?_
    rw [show k + 1 - k = 1 by omega, Nat.pow_one]
    omega
theorem gp_s {pr : Nat → Nat → Nat} {k a g : Nat} (hg : g < 4) : gpS pr (k + 1) (k + 1) (4 * a + g) = gpS pr k k a + pr k g := by
  show nS k (fun p => pr p (dg (k + 1) (4 * a + g) p)) + pr k (dg (k + 1) (4 * a + g) k) = nS k (fun p => pr p (dg k a p)) + pr k g
  rw [dg_s hg (Nat.le_refl k), if_pos rfl, nS_c (f := fun p => pr p (dg (k + 1) (4 * a + g) p)) (g := fun p => pr p (dg k a p)) fun p hp => by rw [dg_s hg (by omega), if_neg (by omega)]]
/-- a stage of the search: the four below it, one behind the other -/
theorem rf_4 (pc : Nat → Nat) (ok : Nat → Bool) (s : Option Nat) (a m : Nat) : rf pc ok s (a * 4 ^ (m + 1)) (4 ^ (m + 1)) = rf pc ok (rf pc ok (rf pc ok (rf pc ok s ((4 * a) * 4 ^ m) (4 ^ m)) ((4 * a + 1) * 4 ^ m) (4 ^ m)) ((4 * a + 2) * 4 ^ m) (4 ^ m)) ((4 * a + 3) * 4 ^ m) (4 ^ m) := by
  have e : (4 : Nat) ^ (m + 1) = 4 ^ m + 4 ^ m + 4 ^ m + 4 ^ m := by rw [Nat.pow_succ]; omega
  have e0 : a * 4 ^ (m + 1) = 4 * a * 4 ^ m := by rw [Nat.pow_succ, Nat.mul_comm (4 ^ m), ← Nat.mul_assoc, Nat.mul_comm a]
  have e1 : ∀ g, (4 * a + g) * 4 ^ m = 4 * a * 4 ^ m + g * 4 ^ m := fun g => Nat.add_mul _ _ _
  rw [e0, e, rf_add, rf_add, rf_add, e1, e1, e1]
  congr 1
  · congr 1
    · congr 1
      omega
    · omega
  · omega
def Fgi (F : ZFt) : Prop := Fgc F ∧ (∀ k μ, F 24 [.ref 40, .int k] μ = .int (zi (allB (μ.1 40 3).toNatClampNeg (fun c => decide (μ.1 (54 + k.toNatClampNeg) c ≤ μ.1 43 c))))) ∧ (∀ p μ, F 25 [.ref 40, .int p] μ = .int (if ¬ μ.1 40 1 = -1 ∧ (0 ≤ p ∧ p < μ.1 40 2) then μ.1 41 p.toNatClampNeg else -1))
theorem Fgi.f24 {F : ZFt} (h : Fgi F) : ∀ k μ, F 24 [.ref 40, .int k] μ = .int (zi (allB (μ.1 40 3).toNatClampNeg (fun c => decide (μ.1 (54 + k.toNatClampNeg) c ≤ μ.1 43 c)))) := h.2.1
theorem Fgi.f25 {F : ZFt} (h : Fgi F) : ∀ p μ, F 25 [.ref 40, .int p] μ = .int (if ¬ μ.1 40 1 = -1 ∧ (0 ≤ p ∧ p < μ.1 40 2) then μ.1 41 p.toNatClampNeg else -1) := h.2.2
theorem Fgi.gc {F : ZFt} (h : Fgi F) : Fgc F := h.1
def Fgi.f9 {F : ZFt} (h : Fgi F) := (h.1).f9
theorem Fgi.of {F : ZFt} (h : Fgi F) : Fof F := h.1.1
def Fgi.f18 {F : ZFt} (h : Fgi F) := (h.1.1).f18
def Fgi.f19 {F : ZFt} (h : Fgi F) := (h.1.1).f19
theorem Fgi.pg {F : ZFt} (h : Fgi F) : Fpg F := h.1.1.1
def Fgi.f56 {F : ZFt} (h : Fgi F) := (h.1.1.1).f56
def Fgi.f57 {F : ZFt} (h : Fgi F) := (h.1.1.1).f57
theorem Fgi.le {F : ZFt} (h : Fgi F) : Fle F := h.1.1.1.1
def Fgi.f134 {F : ZFt} (h : Fgi F) := (h.1.1.1.1).f134
theorem Fgi.di {F : ZFt} (h : Fgi F) : Fdi F := h.1.1.1.1.1
def Fgi.f133 {F : ZFt} (h : Fgi F) := (h.1.1.1.1.1).f133
def Fgi.f20 {F : ZFt} (h : Fgi F) := (h.1.1.1.1.1).f20
def Fgi.f10 {F : ZFt} (h : Fgi F) := (h.1.1.1.1.1).f10
def Fgi.f88 {F : ZFt} (h : Fgi F) := (h.1.1.1.1.1).f88
def Fgi.f45 {F : ZFt} (h : Fgi F) := (h.1.1.1.1.1).f45
def Fgi.f78 {F : ZFt} (h : Fgi F) := (h.1.1.1.1.1).f78
def Fgi.f53 {F : ZFt} (h : Fgi F) := (h.1.1.1.1.1).f53
def Fgi.f32 {F : ZFt} (h : Fgi F) := (h.1.1.1.1.1).f32
def Fgi.f74 {F : ZFt} (h : Fgi F) := (h.1.1.1.1.1).f74
def Fgi.f61 {F : ZFt} (h : Fgi F) := (h.1.1.1.1.1).f61
theorem Fgi.co {F : ZFt} (h : Fgi F) : Fco F := h.1.1.1.1.1.1
def Fgi.f34 {F : ZFt} (h : Fgi F) := (h.1.1.1.1.1.1).f34
def Fgi.f127 {F : ZFt} (h : Fgi F) := (h.1.1.1.1.1.1).f127
def Fgi.f211 {F : ZFt} (h : Fgi F) := (h.1.1.1.1.1.1).f211
theorem Fgi.df {F : ZFt} (h : Fgi F) : Fdf F := h.1.1.1.1.1.1.1
def Fgi.f73 {F : ZFt} (h : Fgi F) := (h.1.1.1.1.1.1.1).f73
def Fgi.f72 {F : ZFt} (h : Fgi F) := (h.1.1.1.1.1.1.1).f72
def Fgi.f209 {F : ZFt} (h : Fgi F) := (h.1.1.1.1.1.1.1).f209
theorem Fgi.en {F : ZFt} (h : Fgi F) : Fen F := h.1.1.1.1.1.1.1.1
def Fgi.f216 {F : ZFt} (h : Fgi F) := (h.1.1.1.1.1.1.1.1).f216
def Fgi.f29 {F : ZFt} (h : Fgi F) := (h.1.1.1.1.1.1.1.1).f29
def Fgi.f31 {F : ZFt} (h : Fgi F) := (h.1.1.1.1.1.1.1.1).f31
def Fgi.f30 {F : ZFt} (h : Fgi F) := (h.1.1.1.1.1.1.1.1).f30
def Fgi.f28 {F : ZFt} (h : Fgi F) := (h.1.1.1.1.1.1.1.1).f28
def Fgi.f27 {F : ZFt} (h : Fgi F) := (h.1.1.1.1.1.1.1.1).f27
def Fgi.f204 {F : ZFt} (h : Fgi F) := (h.1.1.1.1.1.1.1.1).f204
def Fgi.f205 {F : ZFt} (h : Fgi F) := (h.1.1.1.1.1.1.1.1).f205
theorem Fgi.fo {F : ZFt} (h : Fgi F) : Ffo F := h.1.1.1.1.1.1.1.1.1
def Fgi.f76 {F : ZFt} (h : Fgi F) := (h.1.1.1.1.1.1.1.1.1).f76
def Fgi.f77 {F : ZFt} (h : Fgi F) := (h.1.1.1.1.1.1.1.1.1).f77
theorem Fgi.bl {F : ZFt} (h : Fgi F) : Fbl F := h.1.1.1.1.1.1.1.1.1.1
def Fgi.f217 {F : ZFt} (h : Fgi F) := (h.1.1.1.1.1.1.1.1.1.1).f217
def Fgi.f187 {F : ZFt} (h : Fgi F) := (h.1.1.1.1.1.1.1.1.1.1).f187
def Fgi.f43 {F : ZFt} (h : Fgi F) := (h.1.1.1.1.1.1.1.1.1.1).f43
def Fgi.f42 {F : ZFt} (h : Fgi F) := (h.1.1.1.1.1.1.1.1.1.1).f42
def Fgi.f44 {F : ZFt} (h : Fgi F) := (h.1.1.1.1.1.1.1.1.1.1).f44
def Fgi.f186 {F : ZFt} (h : Fgi F) := (h.1.1.1.1.1.1.1.1.1.1).f186
def Fgi.f188 {F : ZFt} (h : Fgi F) := (h.1.1.1.1.1.1.1.1.1.1).f188
theorem Fgi.ri {F : ZFt} (h : Fgi F) : Fri F := h.1.1.1.1.1.1.1.1.1.1.1
def Fgi.f35 {F : ZFt} (h : Fgi F) := (h.1.1.1.1.1.1.1.1.1.1.1).f35
def Fgi.f36 {F : ZFt} (h : Fgi F) := (h.1.1.1.1.1.1.1.1.1.1.1).f36
def Fgi.f37 {F : ZFt} (h : Fgi F) := (h.1.1.1.1.1.1.1.1.1.1.1).f37
def Fgi.f178 {F : ZFt} (h : Fgi F) := (h.1.1.1.1.1.1.1.1.1.1.1).f178
def Fgi.f180 {F : ZFt} (h : Fgi F) := (h.1.1.1.1.1.1.1.1.1.1.1).f180
theorem Fgi.ch {F : ZFt} (h : Fgi F) : Fch F := h.1.1.1.1.1.1.1.1.1.1.1.1
def Fgi.f1 {F : ZFt} (h : Fgi F) := (h.1.1.1.1.1.1.1.1.1.1.1.1).f1
def Fgi.f2 {F : ZFt} (h : Fgi F) := (h.1.1.1.1.1.1.1.1.1.1.1.1).f2
def Fgi.f3 {F : ZFt} (h : Fgi F) := (h.1.1.1.1.1.1.1.1.1.1.1.1).f3
def Fgi.f4 {F : ZFt} (h : Fgi F) := (h.1.1.1.1.1.1.1.1.1.1.1.1).f4
def Fgi.f5 {F : ZFt} (h : Fgi F) := (h.1.1.1.1.1.1.1.1.1.1.1.1).f5
def Fgi.f153 {F : ZFt} (h : Fgi F) := (h.1.1.1.1.1.1.1.1.1.1.1.1).f153
def Fgi.f154 {F : ZFt} (h : Fgi F) := (h.1.1.1.1.1.1.1.1.1.1.1.1).f154
def Fgi.f155 {F : ZFt} (h : Fgi F) := (h.1.1.1.1.1.1.1.1.1.1.1.1).f155
def Fgi.f156 {F : ZFt} (h : Fgi F) := (h.1.1.1.1.1.1.1.1.1.1.1.1).f156
def Fgi.f157 {F : ZFt} (h : Fgi F) := (h.1.1.1.1.1.1.1.1.1.1.1.1).f157
theorem Fgi.kn {F : ZFt} (h : Fgi F) : Fkn F := h.1.1.1.1.1.1.1.1.1.1.1.1.1
def Fgi.f164 {F : ZFt} (h : Fgi F) := (h.1.1.1.1.1.1.1.1.1.1.1.1.1).f164
def Fgi.f165 {F : ZFt} (h : Fgi F) := (h.1.1.1.1.1.1.1.1.1.1.1.1.1).f165
def Fgi.f166 {F : ZFt} (h : Fgi F) := (h.1.1.1.1.1.1.1.1.1.1.1.1.1).f166
def Fgi.f81 {F : ZFt} (h : Fgi F) := (h.1.1.1.1.1.1.1.1.1.1.1.1.1).f81
def Fgi.f84 {F : ZFt} (h : Fgi F) := (h.1.1.1.1.1.1.1.1.1.1.1.1.1).f84
def Fgi.f85 {F : ZFt} (h : Fgi F) := (h.1.1.1.1.1.1.1.1.1.1.1.1.1).f85
def Fgi.f86 {F : ZFt} (h : Fgi F) := (h.1.1.1.1.1.1.1.1.1.1.1.1.1).f86
def Fgi.f87 {F : ZFt} (h : Fgi F) := (h.1.1.1.1.1.1.1.1.1.1.1.1.1).f87
theorem Fgi.ma {F : ZFt} (h : Fgi F) : Fma F := h.1.1.1.1.1.1.1.1.1.1.1.1.1.1
def Fgi.f137 {F : ZFt} (h : Fgi F) := (h.1.1.1.1.1.1.1.1.1.1.1.1.1.1).f137
def Fgi.f175 {F : ZFt} (h : Fgi F) := (h.1.1.1.1.1.1.1.1.1.1.1.1.1.1).f175
theorem Fgi.sm {F : ZFt} (h : Fgi F) : Fsm F := h.1.1.1.1.1.1.1.1.1.1.1.1.1.1.1
def Fgi.f174 {F : ZFt} (h : Fgi F) := (h.1.1.1.1.1.1.1.1.1.1.1.1.1.1.1).f174
def Fgi.f191 {F : ZFt} (h : Fgi F) := (h.1.1.1.1.1.1.1.1.1.1.1.1.1.1.1).f191
theorem Fgi.dr {F : ZFt} (h : Fgi F) : Fdr F := h.1.1.1.1.1.1.1.1.1.1.1.1.1.1.1.1
def Fgi.f11 {F : ZFt} (h : Fgi F) := (h.1.1.1.1.1.1.1.1.1.1.1.1.1.1.1.1).f11
def Fgi.f12 {F : ZFt} (h : Fgi F) := (h.1.1.1.1.1.1.1.1.1.1.1.1.1.1.1.1).f12
def Fgi.f13 {F : ZFt} (h : Fgi F) := (h.1.1.1.1.1.1.1.1.1.1.1.1.1.1.1.1).f13
def Fgi.f14 {F : ZFt} (h : Fgi F) := (h.1.1.1.1.1.1.1.1.1.1.1.1.1.1.1.1).f14
def Fgi.f15 {F : ZFt} (h : Fgi F) := (h.1.1.1.1.1.1.1.1.1.1.1.1.1.1.1.1).f15
def Fgi.f16 {F : ZFt} (h : Fgi F) := (h.1.1.1.1.1.1.1.1.1.1.1.1.1.1.1.1).f16
def Fgi.f17 {F : ZFt} (h : Fgi F) := (h.1.1.1.1.1.1.1.1.1.1.1.1.1.1.1.1).f17
def Fgi.f80 {F : ZFt} (h : Fgi F) := (h.1.1.1.1.1.1.1.1.1.1.1.1.1.1.1.1).f80
def Fgi.f138 {F : ZFt} (h : Fgi F) := (h.1.1.1.1.1.1.1.1.1.1.1.1.1.1.1.1).f138
def Fgi.f141 {F : ZFt} (h : Fgi F) := (h.1.1.1.1.1.1.1.1.1.1.1.1.1.1.1.1).f141
def Fgi.f143 {F : ZFt} (h : Fgi F) := (h.1.1.1.1.1.1.1.1.1.1.1.1.1.1.1.1).f143
def Fgi.f145 {F : ZFt} (h : Fgi F) := (h.1.1.1.1.1.1.1.1.1.1.1.1.1.1.1.1).f145
theorem Fgi.a {F : ZFt} (h : Fgi F) : Fa F := h.1.1.1.1.1.1.1.1.1.1.1.1.1.1.1.1.a
def Fgi.f129 {F : ZFt} (h : Fgi F) := (h.1.1.1.1.1.1.1.1.1.1.1.1.1.1.1.1.a).f129
def Fgi.f130 {F : ZFt} (h : Fgi F) := (h.1.1.1.1.1.1.1.1.1.1.1.1.1.1.1.1.a).f130
def Fgi.f132 {F : ZFt} (h : Fgi F) := (h.1.1.1.1.1.1.1.1.1.1.1.1.1.1.1.1.a).f132
def Fgi.f135 {F : ZFt} (h : Fgi F) := (h.1.1.1.1.1.1.1.1.1.1.1.1.1.1.1.1.a).f135
def Fgi.f136 {F : ZFt} (h : Fgi F) := (h.1.1.1.1.1.1.1.1.1.1.1.1.1.1.1.1.a).f136
section KG1
variable {F : ZFt} {d : Nat} {μ ν : ZM} {P : Option Value → ZM → Prop} {n p : Nat} {Z : List ZD}
theorem k24 {k nc : Nat} (hgi : Fgi F) (hk : k < 7) (hx : μ.1 40 3 = nI nc) (hn : nc ≤ 6) (h : P (some (.int (zi (allB nc (fun c => decide (μ.1 (54 + k) c ≤ μ.1 43 c)))))) μ) : KK Zx F (d + 1) 24 [.ref 40, .int (nI k)] μ P := by
  refine KK_in bd_24 rfl (Nat.le_of_ble_eq_true rfl) ?_; simp (disch := first | omega | (simp (disch := omega) only [forall_eq', Value.category, or_true, true_or, Option.isSome_some, Option.getD_some, true_and, and_true, and_self, forall_const, reduceCtorEq, Bool.false_eq_true, ite_true, ite_false, reduceIte, Nat.reduceLT, Nat.reduceLeDiff, Nat.reduceEqDiff, Nat.reduceAdd, Nat.reduceMul, decide_true, decide_false, Bool.true_and, Bool.and_true, Bool.false_and, Bool.and_false, Bool.or_false, Bool.false_or, not_true_eq_false, not_false_eq_true, Classical.not_not, false_implies, implies_true, decide_eq_true_eq, decide_eq_false_iff_not, Bool.not_eq_true, Bool.not_eq_false, Bool.not_eq_eq_eq_not, Bool.and_eq_true, Bool.or_eq_true, Bool.not_true, Bool.not_false, exists_eq_left, Option.some.injEq, Value.int.injEq, Value.long.injEq, Value.ref.injEq, zofN, znr0, zvpN, nI_clamp, nI_ltI, nI_leI, nI_eq, nI_a1, zN_lt, zN_le, zN_gt, zN_ge, zN_eq, zN_m1, Nat.zero_le, zLE, zi_eq0, zi01b, zi01c, zlast, hx, zIx53 hk])) only [bd_24, sSeq, sIf, sSkip, sDecI, sDecL, sDecR, sSetI, sSetL, sInc, sRetI, sRetZ, sRetL, sRetR, sRetV, sScope, sPut, sPutL, sUpd, sSt, sStL, sStU, sStUL, sCpy, sCpyL, sCS, sCV, sSw, zsw, sBrk, xP, xCS, xCV, xNz, xI, xAnd, xOr, xNot, xT, xB, xInc, xPre, xIncL, xEq, eK, eV, eW, eR, eB, eU, eD, eT, eI, eAnd, eOr, eNot, eF, eFL, eFR, eA, eAL, eAR, eN, eCS, eCV, aN, aI, aL, aR, zen, zli, zlj, zlr, zob, rdI, rdL, rdR, zfk, List.cons_append, List.nil_append, List.set_cons_zero, List.set_cons_succ, List.take_succ_cons, List.take_zero, List.length_cons, List.length_nil, List.getElem?_cons_zero, List.getElem?_cons_succ, forall_eq', Value.category, or_true, true_or, Option.isSome_some, Option.getD_some, true_and, and_true, and_self, forall_const, reduceCtorEq, Bool.false_eq_true, ite_true, ite_false, reduceIte, Nat.reduceLT, Nat.reduceLeDiff, Nat.reduceEqDiff, Nat.reduceAdd, Nat.reduceMul, decide_true, decide_false, Bool.true_and, Bool.and_true, Bool.false_and, Bool.and_false, Bool.or_false, Bool.false_or, not_true_eq_false, not_false_eq_true, Classical.not_not, false_implies, implies_true, decide_eq_true_eq, decide_eq_false_iff_not, Bool.not_eq_true, Bool.not_eq_false, Bool.not_eq_eq_eq_not, Bool.and_eq_true, Bool.or_eq_true, Bool.not_true, Bool.not_false, exists_eq_left, Option.some.injEq, Value.int.injEq, Value.long.injEq, Value.ref.injEq, zFx0, zFx1, zFx2, zFx3, zFx4, zFx5, zFx6, zFx7, zFx8, zFx9, zFx10, zFx11, zFx12, zFx13, zFx14, zFm0, zFm1, zFm2, zFm3, zFm4, zofN, znr0, zvpN, nI_clamp, nI_ltI, nI_leI, nI_eq, nI_a1, zN_lt, zN_le, zN_gt, zN_ge, zN_eq, zN_m1, Nat.zero_le, zLE, zi_eq0, zi01b, zi01c, zlast, hgi.f24, hgi.f25, hgi.f9, hgi.f18, hgi.f19, hgi.f56, hgi.f57, hgi.f134, hgi.f133, hgi.f20, hgi.f10, hgi.f88, hgi.f45, hgi.f78, hgi.f53, hgi.f32, hgi.f74, hgi.f61, hgi.f34, hgi.f127, hgi.f211, hgi.f73, hgi.f72, hgi.f209, hgi.f216, hgi.f29, hgi.f31, hgi.f30, hgi.f28, hgi.f27, hgi.f204, hgi.f205, hgi.f76, hgi.f77, hgi.f217, hgi.f187, hgi.f43, hgi.f42, hgi.f44, hgi.f186, hgi.f188, hgi.f35, hgi.f36, hgi.f37, hgi.f178, hgi.f180, hgi.f1, hgi.f2, hgi.f3, hgi.f4, hgi.f5, hgi.f153, hgi.f154, hgi.f155, hgi.f156, hgi.f157, hgi.f164, hgi.f165, hgi.f166, hgi.f81, hgi.f84, hgi.f85, hgi.f86, hgi.f87, hgi.f137, hgi.f175, hgi.f174, hgi.f191, hgi.f11, hgi.f12, hgi.f13, hgi.f14, hgi.f15, hgi.f16, hgi.f17, hgi.f80, hgi.f138, hgi.f141, hgi.f143, hgi.f145, hgi.f129, hgi.f130, hgi.f132, hgi.f135, hgi.f136, k129, k130, k132, k135, k11, k12, zset_self, k136 hgi.a, k143 hgi.dr, k174 hgi.dr, k191 hgi.dr, hx, zIx53 hk]
  refine whl_up nc (fun i σ => σ = ([.ref 40, .int (nI k), .int (nI i)], μ) ∧ ∀ j, j < i → μ.1 (54 + k) j ≤ μ.1 43 j) ⟨rfl, fun j hj => absurd hj (by omega)⟩ ?_
  rintro i σ Nx hNx hi ⟨rfl, hall⟩
  by_cases hin : i < nc
  · have hi6 : i < 6 := by omega
    by_cases hc : μ.1 (54 + k) i ≤ μ.1 43 i
    · have hN := hNx _ hin ⟨rfl, fun j hj => by
        by_cases e : j = i
        · rw [e]; exact hc
        · exact hall j (by omega)⟩
      have hc2 : ¬ μ.1 43 i < μ.1 (54 + k) i := Int32.not_lt.mpr hc
      simp (disch := first | omega | (simp (disch := omega) only [forall_eq', Value.category, or_true, true_or, Option.isSome_some, Option.getD_some, true_and, and_true, and_self, forall_const, reduceCtorEq, Bool.false_eq_true, ite_true, ite_false, reduceIte, Nat.reduceLT, Nat.reduceLeDiff, Nat.reduceEqDiff, Nat.reduceAdd, Nat.reduceMul, decide_true, decide_false, Bool.true_and, Bool.and_true, Bool.false_and, Bool.and_false, Bool.or_false, Bool.false_or, not_true_eq_false, not_false_eq_true, Classical.not_not, false_implies, implies_true, decide_eq_true_eq, decide_eq_false_iff_not, Bool.not_eq_true, Bool.not_eq_false, Bool.not_eq_eq_eq_not, Bool.and_eq_true, Bool.or_eq_true, Bool.not_true, Bool.not_false, exists_eq_left, Option.some.injEq, Value.int.injEq, Value.long.injEq, Value.ref.injEq, zofN, znr0, zvpN, nI_clamp, nI_ltI, nI_leI, nI_eq, nI_a1, zN_lt, zN_le, zN_gt, zN_ge, zN_eq, zN_m1, Nat.zero_le, zLE, zi_eq0, zi01b, zi01c, zlast, hx, zIx53 hk, hk, hin, hi6, hc2])) only [sSeq, sIf, sSkip, sDecI, sDecL, sDecR, sSetI, sSetL, sInc, sRetI, sRetZ, sRetL, sRetR, sRetV, sScope, sPut, sPutL, sUpd, sSt, sStL, sStU, sStUL, sCpy, sCpyL, sCS, sCV, sSw, zsw, sBrk, xP, xCS, xCV, xNz, xI, xAnd, xOr, xNot, xT, xB, xInc, xPre, xIncL, xEq, eK, eV, eW, eR, eB, eU, eD, eT, eI, eAnd, eOr, eNot, eF, eFL, eFR, eA, eAL, eAR, eN, eCS, eCV, aN, aI, aL, aR, zen, zli, zlj, zlr, zob, rdI, rdL, rdR, zfk, List.cons_append, List.nil_append, List.set_cons_zero, List.set_cons_succ, List.take_succ_cons, List.take_zero, List.length_cons, List.length_nil, List.getElem?_cons_zero, List.getElem?_cons_succ, forall_eq', Value.category, or_true, true_or, Option.isSome_some, Option.getD_some, true_and, and_true, and_self, forall_const, reduceCtorEq, Bool.false_eq_true, ite_true, ite_false, reduceIte, Nat.reduceLT, Nat.reduceLeDiff, Nat.reduceEqDiff, Nat.reduceAdd, Nat.reduceMul, decide_true, decide_false, Bool.true_and, Bool.and_true, Bool.false_and, Bool.and_false, Bool.or_false, Bool.false_or, not_true_eq_false, not_false_eq_true, Classical.not_not, false_implies, implies_true, decide_eq_true_eq, decide_eq_false_iff_not, Bool.not_eq_true, Bool.not_eq_false, Bool.not_eq_eq_eq_not, Bool.and_eq_true, Bool.or_eq_true, Bool.not_true, Bool.not_false, exists_eq_left, Option.some.injEq, Value.int.injEq, Value.long.injEq, Value.ref.injEq, zFx0, zFx1, zFx2, zFx3, zFx4, zFx5, zFx6, zFx7, zFx8, zFx9, zFx10, zFx11, zFx12, zFx13, zFx14, zFm0, zFm1, zFm2, zFm3, zFm4, zofN, znr0, zvpN, nI_clamp, nI_ltI, nI_leI, nI_eq, nI_a1, zN_lt, zN_le, zN_gt, zN_ge, zN_eq, zN_m1, Nat.zero_le, zLE, zi_eq0, zi01b, zi01c, zlast, hgi.f24, hgi.f25, hgi.f9, hgi.f18, hgi.f19, hgi.f56, hgi.f57, hgi.f134, hgi.f133, hgi.f20, hgi.f10, hgi.f88, hgi.f45, hgi.f78, hgi.f53, hgi.f32, hgi.f74, hgi.f61, hgi.f34, hgi.f127, hgi.f211, hgi.f73, hgi.f72, hgi.f209, hgi.f216, hgi.f29, hgi.f31, hgi.f30, hgi.f28, hgi.f27, hgi.f204, hgi.f205, hgi.f76, hgi.f77, hgi.f217, hgi.f187, hgi.f43, hgi.f42, hgi.f44, hgi.f186, hgi.f188, hgi.f35, hgi.f36, hgi.f37, hgi.f178, hgi.f180, hgi.f1, hgi.f2, hgi.f3, hgi.f4, hgi.f5, hgi.f153, hgi.f154, hgi.f155, hgi.f156, hgi.f157, hgi.f164, hgi.f165, hgi.f166, hgi.f81, hgi.f84, hgi.f85, hgi.f86, hgi.f87, hgi.f137, hgi.f175, hgi.f174, hgi.f191, hgi.f11, hgi.f12, hgi.f13, hgi.f14, hgi.f15, hgi.f16, hgi.f17, hgi.f80, hgi.f138, hgi.f141, hgi.f143, hgi.f145, hgi.f129, hgi.f130, hgi.f132, hgi.f135, hgi.f136, k129, k130, k132, k135, k11, k12, zset_self, k136 hgi.a, k143 hgi.dr, k174 hgi.dr, k191 hgi.dr, hx, zIx53 hk, hk, hin, hi6, hc2]
      exact hN
    · rw [allB_f hin (by simpa using hc)] at h
      have hc2 : μ.1 43 i < μ.1 (54 + k) i := Int32.not_le.mp hc
      simp (disch := first | omega | (simp (disch := omega) only [forall_eq', Value.category, or_true, true_or, Option.isSome_some, Option.getD_some, true_and, and_true, and_self, forall_const, reduceCtorEq, Bool.false_eq_true, ite_true, ite_false, reduceIte, Nat.reduceLT, Nat.reduceLeDiff, Nat.reduceEqDiff, Nat.reduceAdd, Nat.reduceMul, decide_true, decide_false, Bool.true_and, Bool.and_true, Bool.false_and, Bool.and_false, Bool.or_false, Bool.false_or, not_true_eq_false, not_false_eq_true, Classical.not_not, false_implies, implies_true, decide_eq_true_eq, decide_eq_false_iff_not, Bool.not_eq_true, Bool.not_eq_false, Bool.not_eq_eq_eq_not, Bool.and_eq_true, Bool.or_eq_true, Bool.not_true, Bool.not_false, exists_eq_left, Option.some.injEq, Value.int.injEq, Value.long.injEq, Value.ref.injEq, zofN, znr0, zvpN, nI_clamp, nI_ltI, nI_leI, nI_eq, nI_a1, zN_lt, zN_le, zN_gt, zN_ge, zN_eq, zN_m1, Nat.zero_le, zLE, zi_eq0, zi01b, zi01c, zlast, hx, zIx53 hk, hk, hin, hi6, hc2])) only [sSeq, sIf, sSkip, sDecI, sDecL, sDecR, sSetI, sSetL, sInc, sRetI, sRetZ, sRetL, sRetR, sRetV, sScope, sPut, sPutL, sUpd, sSt, sStL, sStU, sStUL, sCpy, sCpyL, sCS, sCV, sSw, zsw, sBrk, xP, xCS, xCV, xNz, xI, xAnd, xOr, xNot, xT, xB, xInc, xPre, xIncL, xEq, eK, eV, eW, eR, eB, eU, eD, eT, eI, eAnd, eOr, eNot, eF, eFL, eFR, eA, eAL, eAR, eN, eCS, eCV, aN, aI, aL, aR, zen, zli, zlj, zlr, zob, rdI, rdL, rdR, zfk, List.cons_append, List.nil_append, List.set_cons_zero, List.set_cons_succ, List.take_succ_cons, List.take_zero, List.length_cons, List.length_nil, List.getElem?_cons_zero, List.getElem?_cons_succ, forall_eq', Value.category, or_true, true_or, Option.isSome_some, Option.getD_some, true_and, and_true, and_self, forall_const, reduceCtorEq, Bool.false_eq_true, ite_true, ite_false, reduceIte, Nat.reduceLT, Nat.reduceLeDiff, Nat.reduceEqDiff, Nat.reduceAdd, Nat.reduceMul, decide_true, decide_false, Bool.true_and, Bool.and_true, Bool.false_and, Bool.and_false, Bool.or_false, Bool.false_or, not_true_eq_false, not_false_eq_true, Classical.not_not, false_implies, implies_true, decide_eq_true_eq, decide_eq_false_iff_not, Bool.not_eq_true, Bool.not_eq_false, Bool.not_eq_eq_eq_not, Bool.and_eq_true, Bool.or_eq_true, Bool.not_true, Bool.not_false, exists_eq_left, Option.some.injEq, Value.int.injEq, Value.long.injEq, Value.ref.injEq, zFx0, zFx1, zFx2, zFx3, zFx4, zFx5, zFx6, zFx7, zFx8, zFx9, zFx10, zFx11, zFx12, zFx13, zFx14, zFm0, zFm1, zFm2, zFm3, zFm4, zofN, znr0, zvpN, nI_clamp, nI_ltI, nI_leI, nI_eq, nI_a1, zN_lt, zN_le, zN_gt, zN_ge, zN_eq, zN_m1, Nat.zero_le, zLE, zi_eq0, zi01b, zi01c, zlast, hgi.f24, hgi.f25, hgi.f9, hgi.f18, hgi.f19, hgi.f56, hgi.f57, hgi.f134, hgi.f133, hgi.f20, hgi.f10, hgi.f88, hgi.f45, hgi.f78, hgi.f53, hgi.f32, hgi.f74, hgi.f61, hgi.f34, hgi.f127, hgi.f211, hgi.f73, hgi.f72, hgi.f209, hgi.f216, hgi.f29, hgi.f31, hgi.f30, hgi.f28, hgi.f27, hgi.f204, hgi.f205, hgi.f76, hgi.f77, hgi.f217, hgi.f187, hgi.f43, hgi.f42, hgi.f44, hgi.f186, hgi.f188, hgi.f35, hgi.f36, hgi.f37, hgi.f178, hgi.f180, hgi.f1, hgi.f2, hgi.f3, hgi.f4, hgi.f5, hgi.f153, hgi.f154, hgi.f155, hgi.f156, hgi.f157, hgi.f164, hgi.f165, hgi.f166, hgi.f81, hgi.f84, hgi.f85, hgi.f86, hgi.f87, hgi.f137, hgi.f175, hgi.f174, hgi.f191, hgi.f11, hgi.f12, hgi.f13, hgi.f14, hgi.f15, hgi.f16, hgi.f17, hgi.f80, hgi.f138, hgi.f141, hgi.f143, hgi.f145, hgi.f129, hgi.f130, hgi.f132, hgi.f135, hgi.f136, k129, k130, k132, k135, k11, k12, zset_self, k136 hgi.a, k143 hgi.dr, k174 hgi.dr, k191 hgi.dr, hx, zIx53 hk, hk, hin, hi6, hc2]
      exact h
  · rw [show i = nc by omega] at hall ⊢
    rw [allB_t (fun j hj => by simpa using hall j hj)] at h
    simp (disch := first | omega | (simp (disch := omega) only [forall_eq', Value.category, or_true, true_or, Option.isSome_some, Option.getD_some, true_and, and_true, and_self, forall_const, reduceCtorEq, Bool.false_eq_true, ite_true, ite_false, reduceIte, Nat.reduceLT, Nat.reduceLeDiff, Nat.reduceEqDiff, Nat.reduceAdd, Nat.reduceMul, decide_true, decide_false, Bool.true_and, Bool.and_true, Bool.false_and, Bool.and_false, Bool.or_false, Bool.false_or, not_true_eq_false, not_false_eq_true, Classical.not_not, false_implies, implies_true, decide_eq_true_eq, decide_eq_false_iff_not, Bool.not_eq_true, Bool.not_eq_false, Bool.not_eq_eq_eq_not, Bool.and_eq_true, Bool.or_eq_true, Bool.not_true, Bool.not_false, exists_eq_left, Option.some.injEq, Value.int.injEq, Value.long.injEq, Value.ref.injEq, zofN, znr0, zvpN, nI_clamp, nI_ltI, nI_leI, nI_eq, nI_a1, zN_lt, zN_le, zN_gt, zN_ge, zN_eq, zN_m1, Nat.zero_le, zLE, zi_eq0, zi01b, zi01c, zlast, hx, Nat.lt_irrefl])) only [sSeq, sIf, sSkip, sDecI, sDecL, sDecR, sSetI, sSetL, sInc, sRetI, sRetZ, sRetL, sRetR, sRetV, sScope, sPut, sPutL, sUpd, sSt, sStL, sStU, sStUL, sCpy, sCpyL, sCS, sCV, sSw, zsw, sBrk, xP, xCS, xCV, xNz, xI, xAnd, xOr, xNot, xT, xB, xInc, xPre, xIncL, xEq, eK, eV, eW, eR, eB, eU, eD, eT, eI, eAnd, eOr, eNot, eF, eFL, eFR, eA, eAL, eAR, eN, eCS, eCV, aN, aI, aL, aR, zen, zli, zlj, zlr, zob, rdI, rdL, rdR, zfk, List.cons_append, List.nil_append, List.set_cons_zero, List.set_cons_succ, List.take_succ_cons, List.take_zero, List.length_cons, List.length_nil, List.getElem?_cons_zero, List.getElem?_cons_succ, forall_eq', Value.category, or_true, true_or, Option.isSome_some, Option.getD_some, true_and, and_true, and_self, forall_const, reduceCtorEq, Bool.false_eq_true, ite_true, ite_false, reduceIte, Nat.reduceLT, Nat.reduceLeDiff, Nat.reduceEqDiff, Nat.reduceAdd, Nat.reduceMul, decide_true, decide_false, Bool.true_and, Bool.and_true, Bool.false_and, Bool.and_false, Bool.or_false, Bool.false_or, not_true_eq_false, not_false_eq_true, Classical.not_not, false_implies, implies_true, decide_eq_true_eq, decide_eq_false_iff_not, Bool.not_eq_true, Bool.not_eq_false, Bool.not_eq_eq_eq_not, Bool.and_eq_true, Bool.or_eq_true, Bool.not_true, Bool.not_false, exists_eq_left, Option.some.injEq, Value.int.injEq, Value.long.injEq, Value.ref.injEq, zFx0, zFx1, zFx2, zFx3, zFx4, zFx5, zFx6, zFx7, zFx8, zFx9, zFx10, zFx11, zFx12, zFx13, zFx14, zFm0, zFm1, zFm2, zFm3, zFm4, zofN, znr0, zvpN, nI_clamp, nI_ltI, nI_leI, nI_eq, nI_a1, zN_lt, zN_le, zN_gt, zN_ge, zN_eq, zN_m1, Nat.zero_le, zLE, zi_eq0, zi01b, zi01c, zlast, hgi.f24, hgi.f25, hgi.f9, hgi.f18, hgi.f19, hgi.f56, hgi.f57, hgi.f134, hgi.f133, hgi.f20, hgi.f10, hgi.f88, hgi.f45, hgi.f78, hgi.f53, hgi.f32, hgi.f74, hgi.f61, hgi.f34, hgi.f127, hgi.f211, hgi.f73, hgi.f72, hgi.f209, hgi.f216, hgi.f29, hgi.f31, hgi.f30, hgi.f28, hgi.f27, hgi.f204, hgi.f205, hgi.f76, hgi.f77, hgi.f217, hgi.f187, hgi.f43, hgi.f42, hgi.f44, hgi.f186, hgi.f188, hgi.f35, hgi.f36, hgi.f37, hgi.f178, hgi.f180, hgi.f1, hgi.f2, hgi.f3, hgi.f4, hgi.f5, hgi.f153, hgi.f154, hgi.f155, hgi.f156, hgi.f157, hgi.f164, hgi.f165, hgi.f166, hgi.f81, hgi.f84, hgi.f85, hgi.f86, hgi.f87, hgi.f137, hgi.f175, hgi.f174, hgi.f191, hgi.f11, hgi.f12, hgi.f13, hgi.f14, hgi.f15, hgi.f16, hgi.f17, hgi.f80, hgi.f138, hgi.f141, hgi.f143, hgi.f145, hgi.f129, hgi.f130, hgi.f132, hgi.f135, hgi.f136, k129, k130, k132, k135, k11, k12, zset_self, k136 hgi.a, k143 hgi.dr, k174 hgi.dr, k191 hgi.dr, hx, Nat.lt_irrefl]
    exact h
theorem k25 {nn : Nat} {p : Int32} (hgi : Fgi F) (hx : μ.1 40 2 = nI nn) (hn : nn ≤ 6) (h : P (some (.int (if ¬ μ.1 40 1 = -1 ∧ (0 ≤ p ∧ p < μ.1 40 2) then μ.1 41 p.toNatClampNeg else -1))) μ) : KK Zx F (d + 2) 25 [.ref 40, .int p] μ P := by
  rw [hx] at h
  by_cases hp : 0 ≤ p ∧ p < nI nn
  · obtain ⟨j, hj, rfl⟩ := zrg (by omega) hp
    have hj6 : j < 6 := by omega
    rw [nI_clamp (by omega)] at h
    refine KK_in bd_25 rfl (Nat.le_of_ble_eq_true rfl) ?_; simp (disch := first | omega | (simp (disch := omega) only [forall_eq', Value.category, or_true, true_or, Option.isSome_some, Option.getD_some, true_and, and_true, and_self, forall_const, reduceCtorEq, Bool.false_eq_true, ite_true, ite_false, reduceIte, Nat.reduceLT, Nat.reduceLeDiff, Nat.reduceEqDiff, Nat.reduceAdd, Nat.reduceMul, decide_true, decide_false, Bool.true_and, Bool.and_true, Bool.false_and, Bool.and_false, Bool.or_false, Bool.false_or, not_true_eq_false, not_false_eq_true, Classical.not_not, false_implies, implies_true, decide_eq_true_eq, decide_eq_false_iff_not, Bool.not_eq_true, Bool.not_eq_false, Bool.not_eq_eq_eq_not, Bool.and_eq_true, Bool.or_eq_true, Bool.not_true, Bool.not_false, exists_eq_left, Option.some.injEq, Value.int.injEq, Value.long.injEq, Value.ref.injEq, zofN, znr0, zvpN, nI_clamp, nI_ltI, nI_leI, nI_eq, nI_a1, zN_lt, zN_le, zN_gt, zN_ge, zN_eq, zN_m1, Nat.zero_le, zLE, zi_eq0, zi01b, zi01c, zlast, hx, hj, hj6])) only [bd_25, sSeq, sIf, sSkip, sDecI, sDecL, sDecR, sSetI, sSetL, sInc, sRetI, sRetZ, sRetL, sRetR, sRetV, sScope, sPut, sPutL, sUpd, sSt, sStL, sStU, sStUL, sCpy, sCpyL, sCS, sCV, sSw, zsw, sBrk, xP, xCS, xCV, xNz, xI, xAnd, xOr, xNot, xT, xB, xInc, xPre, xIncL, xEq, eK, eV, eW, eR, eB, eU, eD, eT, eI, eAnd, eOr, eNot, eF, eFL, eFR, eA, eAL, eAR, eN, eCS, eCV, aN, aI, aL, aR, zen, zli, zlj, zlr, zob, rdI, rdL, rdR, zfk, List.cons_append, List.nil_append, List.set_cons_zero, List.set_cons_succ, List.take_succ_cons, List.take_zero, List.length_cons, List.length_nil, List.getElem?_cons_zero, List.getElem?_cons_succ, forall_eq', Value.category, or_true, true_or, Option.isSome_some, Option.getD_some, true_and, and_true, and_self, forall_const, reduceCtorEq, Bool.false_eq_true, ite_true, ite_false, reduceIte, Nat.reduceLT, Nat.reduceLeDiff, Nat.reduceEqDiff, Nat.reduceAdd, Nat.reduceMul, decide_true, decide_false, Bool.true_and, Bool.and_true, Bool.false_and, Bool.and_false, Bool.or_false, Bool.false_or, not_true_eq_false, not_false_eq_true, Classical.not_not, false_implies, implies_true, decide_eq_true_eq, decide_eq_false_iff_not, Bool.not_eq_true, Bool.not_eq_false, Bool.not_eq_eq_eq_not, Bool.and_eq_true, Bool.or_eq_true, Bool.not_true, Bool.not_false, exists_eq_left, Option.some.injEq, Value.int.injEq, Value.long.injEq, Value.ref.injEq, zFx0, zFx1, zFx2, zFx3, zFx4, zFx5, zFx6, zFx7, zFx8, zFx9, zFx10, zFx11, zFx12, zFx13, zFx14, zFm0, zFm1, zFm2, zFm3, zFm4, zofN, znr0, zvpN, nI_clamp, nI_ltI, nI_leI, nI_eq, nI_a1, zN_lt, zN_le, zN_gt, zN_ge, zN_eq, zN_m1, Nat.zero_le, zLE, zi_eq0, zi01b, zi01c, zlast, hgi.f24, hgi.f25, hgi.f9, hgi.f18, hgi.f19, hgi.f56, hgi.f57, hgi.f134, hgi.f133, hgi.f20, hgi.f10, hgi.f88, hgi.f45, hgi.f78, hgi.f53, hgi.f32, hgi.f74, hgi.f61, hgi.f34, hgi.f127, hgi.f211, hgi.f73, hgi.f72, hgi.f209, hgi.f216, hgi.f29, hgi.f31, hgi.f30, hgi.f28, hgi.f27, hgi.f204, hgi.f205, hgi.f76, hgi.f77, hgi.f217, hgi.f187, hgi.f43, hgi.f42, hgi.f44, hgi.f186, hgi.f188, hgi.f35, hgi.f36, hgi.f37, hgi.f178, hgi.f180, hgi.f1, hgi.f2, hgi.f3, hgi.f4, hgi.f5, hgi.f153, hgi.f154, hgi.f155, hgi.f156, hgi.f157, hgi.f164, hgi.f165, hgi.f166, hgi.f81, hgi.f84, hgi.f85, hgi.f86, hgi.f87, hgi.f137, hgi.f175, hgi.f174, hgi.f191, hgi.f11, hgi.f12, hgi.f13, hgi.f14, hgi.f15, hgi.f16, hgi.f17, hgi.f80, hgi.f138, hgi.f141, hgi.f143, hgi.f145, hgi.f129, hgi.f130, hgi.f132, hgi.f135, hgi.f136, k129, k130, k132, k135, k11, k12, zset_self, k136 hgi.a, k143 hgi.dr, k174 hgi.dr, k191 hgi.dr, hx, hj, hj6]
    by_cases e : μ.1 40 1 = -1
    · rw [if_neg (fun z => z.1 e)] at h
      rw [if_neg (fun z => z e)]
      exact h
    · rw [if_pos ⟨e, hp⟩] at h
      rw [if_pos e]
      exact h
  · refine KK_in bd_25 rfl (Nat.le_of_ble_eq_true rfl) ?_; simp (disch := first | omega | (simp (disch := omega) only [forall_eq', Value.category, or_true, true_or, Option.isSome_some, Option.getD_some, true_and, and_true, and_self, forall_const, reduceCtorEq, Bool.false_eq_true, ite_true, ite_false, reduceIte, Nat.reduceLT, Nat.reduceLeDiff, Nat.reduceEqDiff, Nat.reduceAdd, Nat.reduceMul, decide_true, decide_false, Bool.true_and, Bool.and_true, Bool.false_and, Bool.and_false, Bool.or_false, Bool.false_or, not_true_eq_false, not_false_eq_true, Classical.not_not, false_implies, implies_true, decide_eq_true_eq, decide_eq_false_iff_not, Bool.not_eq_true, Bool.not_eq_false, Bool.not_eq_eq_eq_not, Bool.and_eq_true, Bool.or_eq_true, Bool.not_true, Bool.not_false, exists_eq_left, Option.some.injEq, Value.int.injEq, Value.long.injEq, Value.ref.injEq, zofN, znr0, zvpN, nI_clamp, nI_ltI, nI_leI, nI_eq, nI_a1, zN_lt, zN_le, zN_gt, zN_ge, zN_eq, zN_m1, Nat.zero_le, zLE, zi_eq0, zi01b, zi01c, zlast, hx])) only [bd_25, sSeq, sIf, sSkip, sDecI, sDecL, sDecR, sSetI, sSetL, sInc, sRetI, sRetZ, sRetL, sRetR, sRetV, sScope, sPut, sPutL, sUpd, sSt, sStL, sStU, sStUL, sCpy, sCpyL, sCS, sCV, sSw, zsw, sBrk, xP, xCS, xCV, xNz, xI, xAnd, xOr, xNot, xT, xB, xInc, xPre, xIncL, xEq, eK, eV, eW, eR, eB, eU, eD, eT, eI, eAnd, eOr, eNot, eF, eFL, eFR, eA, eAL, eAR, eN, eCS, eCV, aN, aI, aL, aR, zen, zli, zlj, zlr, zob, rdI, rdL, rdR, zfk, List.cons_append, List.nil_append, List.set_cons_zero, List.set_cons_succ, List.take_succ_cons, List.take_zero, List.length_cons, List.length_nil, List.getElem?_cons_zero, List.getElem?_cons_succ, forall_eq', Value.category, or_true, true_or, Option.isSome_some, Option.getD_some, true_and, and_true, and_self, forall_const, reduceCtorEq, Bool.false_eq_true, ite_true, ite_false, reduceIte, Nat.reduceLT, Nat.reduceLeDiff, Nat.reduceEqDiff, Nat.reduceAdd, Nat.reduceMul, decide_true, decide_false, Bool.true_and, Bool.and_true, Bool.false_and, Bool.and_false, Bool.or_false, Bool.false_or, not_true_eq_false, not_false_eq_true, Classical.not_not, false_implies, implies_true, decide_eq_true_eq, decide_eq_false_iff_not, Bool.not_eq_true, Bool.not_eq_false, Bool.not_eq_eq_eq_not, Bool.and_eq_true, Bool.or_eq_true, Bool.not_true, Bool.not_false, exists_eq_left, Option.some.injEq, Value.int.injEq, Value.long.injEq, Value.ref.injEq, zFx0, zFx1, zFx2, zFx3, zFx4, zFx5, zFx6, zFx7, zFx8, zFx9, zFx10, zFx11, zFx12, zFx13, zFx14, zFm0, zFm1, zFm2, zFm3, zFm4, zofN, znr0, zvpN, nI_clamp, nI_ltI, nI_leI, nI_eq, nI_a1, zN_lt, zN_le, zN_gt, zN_ge, zN_eq, zN_m1, Nat.zero_le, zLE, zi_eq0, zi01b, zi01c, zlast, hgi.f24, hgi.f25, hgi.f9, hgi.f18, hgi.f19, hgi.f56, hgi.f57, hgi.f134, hgi.f133, hgi.f20, hgi.f10, hgi.f88, hgi.f45, hgi.f78, hgi.f53, hgi.f32, hgi.f74, hgi.f61, hgi.f34, hgi.f127, hgi.f211, hgi.f73, hgi.f72, hgi.f209, hgi.f216, hgi.f29, hgi.f31, hgi.f30, hgi.f28, hgi.f27, hgi.f204, hgi.f205, hgi.f76, hgi.f77, hgi.f217, hgi.f187, hgi.f43, hgi.f42, hgi.f44, hgi.f186, hgi.f188, hgi.f35, hgi.f36, hgi.f37, hgi.f178, hgi.f180, hgi.f1, hgi.f2, hgi.f3, hgi.f4, hgi.f5, hgi.f153, hgi.f154, hgi.f155, hgi.f156, hgi.f157, hgi.f164, hgi.f165, hgi.f166, hgi.f81, hgi.f84, hgi.f85, hgi.f86, hgi.f87, hgi.f137, hgi.f175, hgi.f174, hgi.f191, hgi.f11, hgi.f12, hgi.f13, hgi.f14, hgi.f15, hgi.f16, hgi.f17, hgi.f80, hgi.f138, hgi.f141, hgi.f143, hgi.f145, hgi.f129, hgi.f130, hgi.f132, hgi.f135, hgi.f136, k129, k130, k132, k135, k11, k12, zset_self, k136 hgi.a, k143 hgi.dr, k174 hgi.dr, k191 hgi.dr, hx]
    exact ⟨fun z => absurd z.2 hp, h⟩
/-- the search: n parts, nc chains; what of the memory it reads and leaves alone -/
def GFx (μ : ZM) (n nc : Nat) (room : Nat → Int) (oft : Nat → Nat → Nat) (spn : Nat → Nat) (pr : Nat → Nat → Nat) : Prop :=
  1 ≤ n ∧ n ≤ 6 ∧ nc ≤ 6 ∧ μ.1 40 2 = nI n ∧ μ.1 40 3 = nI nc ∧ (∀ c, c < nc → (μ.1 43 c).toInt = room c) ∧ (∀ p c, p < n → c < nc → μ.1 (45 + p) c = nI (oft p c) ∧ oft p c ≤ 6) ∧ (∀ g, g < 4 → μ.1 14 g = nI (spn g) ∧ spn g ≤ 99) ∧ ∀ p g, p < n → g < 4 → priceS (μ.1 2 p) (μ.1 15 g) = nI (pr p g) ∧ pr p g ≤ 2997
/-- SPANS of the chain c when the first k places are those of the word a -/
def usd (base : Nat → Nat) (oft : Nat → Nat → Nat) (spn : Nat → Nat) (k a c : Nat) : Nat := base c + gpS (fun p g => oft p c * spn g) k k a
def okW (nc : Nat) (room : Nat → Int) (base : Nat → Nat) (oft : Nat → Nat → Nat) (spn : Nat → Nat) (n x : Nat) : Bool := allB nc (fun c => decide ((usd base oft spn n x c : Int) ≤ room c))
/-- the memory holds s, the best so far -/
def GSt (μ : ZM) (n : Nat) (pc : Nat → Nat) (s : Option Nat) : Prop := match s with
  | none => μ.1 40 1 = -1
  | some y => μ.1 40 1 = nI (pc y) ∧ ∀ p, p < n → μ.1 41 p = nI (dg n y p)
/-- what a search below depth k leaves -/
def GKeep (k : Nat) (μ μ' : ZM) : Prop := (∀ a, a < 40 ∨ 60 < a ∨ (42 < a ∧ a ≤ 54 + k) → μ'.1 a = μ.1 a) ∧ (∀ j, j ≠ 1 → μ'.1 40 j = μ.1 40 j) ∧ (∀ j, j < k → μ'.1 42 j = μ.1 42 j)
theorem GKeep.refl (k : Nat) (μ : ZM) : GKeep k μ μ := ⟨fun _ _ => rfl, fun _ _ => rfl, fun _ _ => rfl⟩
theorem GKeep.trans {k : Nat} {μ1 μ2 μ3 : ZM} (h : GKeep k μ1 μ2) (g : GKeep k μ2 μ3) : GKeep k μ1 μ3 := ⟨fun a ha => (g.1 a ha).trans (h.1 a ha), fun j hj => (g.2.1 j hj).trans (h.2.1 j hj), fun j hj => (g.2.2 j hj).trans (h.2.2 j hj)⟩
theorem GKeep.mono {k l : Nat} {μ μ' : ZM} (h : GKeep l μ μ') (hk : k ≤ l) : GKeep k μ μ' := ⟨fun a ha => h.1 a (by omega), h.2.1, fun j hj => h.2.2 j (by omega)⟩
theorem GFx.keep {μ μ' : ZM} {n nc k : Nat} {room : Nat → Int} {oft : Nat → Nat → Nat} {spn : Nat → Nat} {pr : Nat → Nat → Nat} (h : GFx μ n nc room oft spn pr) (g : GKeep k μ μ') : GFx μ' n nc room oft spn pr := by
  obtain ⟨a1, a2, a3, a4, a5, a6, a7, a8, a9⟩ := h
  refine ⟨a1, a2, a3, by rw [g.2.1 2 (by omega)]; exact a4, by rw [g.2.1 3 (by omega)]; exact a5, by rw [g.1 43 (by omega)]; exact a6, fun p c hp hc => by rw [g.1 (45 + p) (by omega)]; exact a7 p c hp hc, by rw [g.1 14 (by omega)]; exact a8, by rw [g.1 2 (by omega), g.1 15 (by omega)]; exact a9⟩
theorem ok_pre {nc n k x a : Nat} {room : Nat → Int} {base : Nat → Nat} {oft : Nat → Nat → Nat} {spn : Nat → Nat} (hk : k ≤ n) (hx : x / 4 ^ (n - k) = a) (h : allB nc (fun c => decide ((usd base oft spn k a c : Int) ≤ room c)) = false) : okW nc room base oft spn n x = false := by
  unfold allB at h
  rw [List.all_eq_false] at h
  obtain ⟨c, h1, h2⟩ := h
  refine allB_f (List.mem_range.mp h1) (decide_eq_false fun z => h2 (decide_eq_true ?_))
  have := gp_le (pr := fun p g => oft p c * spn g) hk hx
  unfold usd at z ⊢
  omega
end KG1
