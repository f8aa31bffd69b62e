/-! LAYER B: odds, the class's answer -/
def nS : Nat → (Nat → Nat) → Nat
  | 0, _ => 0
  | n + 1, f => nS n f + f n
theorem nS_le {f g : Nat → Nat} (h : ∀ i, f i ≤ g i) : ∀ n, nS n f ≤ nS n g
  | 0 => Nat.le_refl 0
  | n + 1 => Nat.add_le_add (nS_le h n) (h n)
theorem nS_mono {f : Nat → Nat} {n m : Nat} (h : n ≤ m) : nS n f ≤ nS m f := by
  induction h with
  | refl => exact Nat.le_refl _
  | step _ ih => exact Nat.le_trans ih (Nat.le_add_right _ _)
theorem nS_add (f g : Nat → Nat) : ∀ n, nS n (fun i => f i + g i) = nS n f + nS n g
  | 0 => rfl
  | n + 1 => by
    show nS n (fun i => f i + g i) + (f n + g n) = nS n f + f n + (nS n g + g n)
    rw [nS_add f g n]
    omega
theorem nS_mul (a : Nat) (f : Nat → Nat) : ∀ n, nS n (fun i => a * f i) = a * nS n f
  | 0 => rfl
  | n + 1 => by
    show nS n (fun i => a * f i) + a * f n = a * (nS n f + f n)
    rw [nS_mul a f n, Nat.mul_add]
theorem nS_shift {W : Nat → Nat} (hz : ∀ k, W k ≠ 0 → 4 ≤ k ∧ k ≤ 44) : ∀ r, r < 9 → nS 49 (fun t => if r ≤ t + 4 then W (t + 4 - r) else 0) = nS 49 W := by
  have z : ∀ k, k < 4 ∨ 44 < k → W k = 0 := fun k hk => Classical.byContradiction fun q => by have := hz k q; omega
  intro r hr
  have a0 := z 0 (by omega)
  have a1 := z 1 (by omega)
  have a2 := z 2 (by omega)
  have a3 := z 3 (by omega)
  have b5 := z 45 (by omega)
  have b6 := z 46 (by omega)
  have b7 := z 47 (by omega)
  have b8 := z 48 (by omega)
  have b9 := z 49 (by omega)
  have c0 := z 50 (by omega)
  have c1 := z 51 (by omega)
  have c2 := z 52 (by omega)
  rcases (show r = 0 ∨ r = 1 ∨ r = 2 ∨ r = 3 ∨ r = 4 ∨ r = 5 ∨ r = 6 ∨ r = 7 ∨ r = 8 by omega) with rfl | rfl | rfl | rfl | rfl | rfl | rfl | rfl | rfl <;> simp [nS, a0, a1, a2, a3, b5, b6, b7, b8, b9, c0, c1, c2]
theorem nS_sp {s : Bool} {o W : Nat → Nat} (hz : ∀ k, W k ≠ 0 → 4 ≤ k ∧ k ≤ 44) : ∀ E, E ≤ 9 → nS 49 (sp s o W E) = nS E o * nS 49 W
  | 0, _ => by
    rw [show (sp s o W 0) = fun _ => 0 * 0 from rfl, nS_mul, Nat.zero_mul]
    exact (Nat.zero_mul _).symm
  | E + 1, hE => by
    have e1 : (sp s o W (E + 1)) = fun t => sp s o W E t + o E * (if os s E ≤ t + 4 then W (t + 4 - os s E) else 0) := by
      funext t
      rw [sp]
      split
      · rfl
      · rw [Nat.mul_zero]
    rw [e1, nS_add, nS_sp hz E (by omega), nS_mul, nS_shift hz _ (os_8 s (by omega))]
    exact (Nat.add_mul _ _ _).symm
/-- all choices of j terms -/
def moS (O : Nat → Nat → Nat) : Nat → Nat
  | 0 => 1
  | j + 1 => nS 9 (oc (O j)) * moS O j
theorem mo_eq {S : Nat → Bool} {O : Nat → Nat → Nat} : ∀ {j : Nat}, j ≤ 6 → nS 49 (wyS S O j) = moS O j
  | 0, _ => by simp [nS, wyS, moS]
  | j + 1, hj => by
    rw [show wyS S O (j + 1) = sp (S j) (oc (O j)) (wyS S O j) 9 from rfl, nS_sp (fun k hk => by have := wy_0 hk; omega) 9 (Nat.le_refl 9), mo_eq (by omega), moS]
theorem oc_sum {o : Nat → Nat} (ho : ∀ i, i < 9 → o i ≤ 99) : 1 ≤ nS 9 (oc o) ∧ nS 9 (oc o) ≤ 891 ∧ nS 9 (oc o) = if nS 9 o = 0 then 1 else nS 9 o := by
  have h0 := ho 0 (by omega)
  have h1 := ho 1 (by omega)
  have h2 := ho 2 (by omega)
  have h3 := ho 3 (by omega)
  have h4 := ho 4 (by omega)
  have h5 := ho 5 (by omega)
  have h6 := ho 6 (by omega)
  have h7 := ho 7 (by omega)
  have h8 := ho 8 (by omega)
  cases hb : allB 9 (fun i => decide (o i = 0)) with
  | true =>
    have z : ∀ i, i < 9 → o i = 0 := fun i hi => of_decide_eq_true (List.all_eq_true.mp hb i (List.mem_range.mpr hi))
    have e0 : nS 9 o = 0 := by simp [nS, z]
    have e1 : nS 9 (oc o) = 1 := by simp [nS, oc, hb]
    rw [e0, e1]
    decide
  | false =>
    have e1 : nS 9 (oc o) = nS 9 o := by simp [nS, oc, hb]
    have e2 : nS 9 o ≠ 0 := fun z => by
      simp only [nS] at z
      have : allB 9 (fun i => decide (o i = 0)) = true := allB_t fun i hi => by
        rcases (show i = 0 ∨ i = 1 ∨ i = 2 ∨ i = 3 ∨ i = 4 ∨ i = 5 ∨ i = 6 ∨ i = 7 ∨ i = 8 by omega) with rfl | rfl | rfl | rfl | rfl | rfl | rfl | rfl | rfl <;> exact decide_eq_true (by omega)
      rw [hb] at this
      cases this
    rw [e1, if_neg e2]
    refine ⟨Nat.pos_of_ne_zero e2, ?_, rfl⟩
    simp only [nS]
    omega
theorem mo_le {O : Nat → Nat → Nat} : ∀ {j : Nat}, (∀ i, i < j → ∀ e, e < 9 → O i e ≤ 99) → 1 ≤ moS O j ∧ moS O j ≤ 891 ^ j
  | 0, _ => by simp [moS]
  | j + 1, h => by
    obtain ⟨a1, a2⟩ := mo_le (O := O) (j := j) fun i hi => h i (by omega)
    obtain ⟨b1, b2, _⟩ := oc_sum (h j (by omega))
    rw [moS, Nat.pow_succ, Nat.mul_comm (891 ^ j)]
    exact ⟨Nat.mul_le_mul b1 a1, Nat.mul_le_mul b2 a2⟩
theorem Ln_div {a b : Nat} (ha : a < 2 ^ 63) (hb : b < 2 ^ 63) : Ln a / Ln b = Ln (a / b) := by
  refine Int64.toInt_inj.mp ?_
  have h1 : a / b ≤ a := Nat.div_le_self a b
  have e : (a : Int).tdiv (b : Int) = ((a / b : Nat) : Int) := rfl
  rw [Int64.toInt_div, Ln_toInt ha, Ln_toInt hb, e]
  generalize a / b = q at h1 ⊢
  rw [Ln_toInt (by omega), Int.bmod_eq_of_le (by omega) (by omega)]
theorem Ln_mod {a b : Nat} (ha : a < 2 ^ 63) (hb : b < 2 ^ 63) : Ln a - Ln a / Ln b * Ln b = Ln (a % b) := by
  rw [Ln_div ha hb, ← Ln_mul]
  have e : Ln a = Ln (a % b) + Ln (a / b * b) := by rw [← Ln_add, Nat.mul_comm, Nat.mod_add_div]
  rw [e, Int64.add_sub_cancel]
def gcI (a b : Int64) : Int64 := Ln (Nat.gcd a.toInt.toNat b.toInt.toNat)
theorem gcI_L {a b : Nat} (ha : a < 2 ^ 63) (hb : b < 2 ^ 63) : gcI (Ln a) (Ln b) = Ln (Nat.gcd a b) := by
  unfold gcI
  rw [Ln_toInt ha, Ln_toInt hb]
  rfl
def Fgc (F : ZFt) : Prop := Fof F ∧ (∀ a b μ, F 9 [.long a, .long b] μ = .long (gcI a b))
theorem Fgc.f9 {F : ZFt} (h : Fgc F) : ∀ a b μ, F 9 [.long a, .long b] μ = .long (gcI a b) := h.2
theorem Fgc.of {F : ZFt} (h : Fgc F) : Fof F := h.1
def Fgc.f18 {F : ZFt} (h : Fgc F) := (h.1).f18
def Fgc.f19 {F : ZFt} (h : Fgc F) := (h.1).f19
theorem Fgc.pg {F : ZFt} (h : Fgc F) : Fpg F := h.1.1
def Fgc.f56 {F : ZFt} (h : Fgc F) := (h.1.1).f56
def Fgc.f57 {F : ZFt} (h : Fgc F) := (h.1.1).f57
theorem Fgc.le {F : ZFt} (h : Fgc F) : Fle F := h.1.1.1
def Fgc.f134 {F : ZFt} (h : Fgc F) := (h.1.1.1).f134
theorem Fgc.di {F : ZFt} (h : Fgc F) : Fdi F := h.1.1.1.1
def Fgc.f133 {F : ZFt} (h : Fgc F) := (h.1.1.1.1).f133
def Fgc.f20 {F : ZFt} (h : Fgc F) := (h.1.1.1.1).f20
def Fgc.f10 {F : ZFt} (h : Fgc F) := (h.1.1.1.1).f10
def Fgc.f88 {F : ZFt} (h : Fgc F) := (h.1.1.1.1).f88
def Fgc.f45 {F : ZFt} (h : Fgc F) := (h.1.1.1.1).f45
def Fgc.f78 {F : ZFt} (h : Fgc F) := (h.1.1.1.1).f78
def Fgc.f53 {F : ZFt} (h : Fgc F) := (h.1.1.1.1).f53
def Fgc.f32 {F : ZFt} (h : Fgc F) := (h.1.1.1.1).f32
def Fgc.f74 {F : ZFt} (h : Fgc F) := (h.1.1.1.1).f74
def Fgc.f61 {F : ZFt} (h : Fgc F) := (h.1.1.1.1).f61
theorem Fgc.co {F : ZFt} (h : Fgc F) : Fco F := h.1.1.1.1.1
def Fgc.f34 {F : ZFt} (h : Fgc F) := (h.1.1.1.1.1).f34
def Fgc.f127 {F : ZFt} (h : Fgc F) := (h.1.1.1.1.1).f127
def Fgc.f211 {F : ZFt} (h : Fgc F) := (h.1.1.1.1.1).f211
theorem Fgc.df {F : ZFt} (h : Fgc F) : Fdf F := h.1.1.1.1.1.1
def Fgc.f73 {F : ZFt} (h : Fgc F) := (h.1.1.1.1.1.1).f73
def Fgc.f72 {F : ZFt} (h : Fgc F) := (h.1.1.1.1.1.1).f72
def Fgc.f209 {F : ZFt} (h : Fgc F) := (h.1.1.1.1.1.1).f209
theorem Fgc.en {F : ZFt} (h : Fgc F) : Fen F := h.1.1.1.1.1.1.1
def Fgc.f216 {F : ZFt} (h : Fgc F) := (h.1.1.1.1.1.1.1).f216
def Fgc.f29 {F : ZFt} (h : Fgc F) := (h.1.1.1.1.1.1.1).f29
def Fgc.f31 {F : ZFt} (h : Fgc F) := (h.1.1.1.1.1.1.1).f31
def Fgc.f30 {F : ZFt} (h : Fgc F) := (h.1.1.1.1.1.1.1).f30
def Fgc.f28 {F : ZFt} (h : Fgc F) := (h.1.1.1.1.1.1.1).f28
def Fgc.f27 {F : ZFt} (h : Fgc F) := (h.1.1.1.1.1.1.1).f27
def Fgc.f204 {F : ZFt} (h : Fgc F) := (h.1.1.1.1.1.1.1).f204
def Fgc.f205 {F : ZFt} (h : Fgc F) := (h.1.1.1.1.1.1.1).f205
theorem Fgc.fo {F : ZFt} (h : Fgc F) : Ffo F := h.1.1.1.1.1.1.1.1
def Fgc.f76 {F : ZFt} (h : Fgc F) := (h.1.1.1.1.1.1.1.1).f76
def Fgc.f77 {F : ZFt} (h : Fgc F) := (h.1.1.1.1.1.1.1.1).f77
theorem Fgc.bl {F : ZFt} (h : Fgc F) : Fbl F := h.1.1.1.1.1.1.1.1.1
def Fgc.f217 {F : ZFt} (h : Fgc F) := (h.1.1.1.1.1.1.1.1.1).f217
def Fgc.f187 {F : ZFt} (h : Fgc F) := (h.1.1.1.1.1.1.1.1.1).f187
def Fgc.f43 {F : ZFt} (h : Fgc F) := (h.1.1.1.1.1.1.1.1.1).f43
def Fgc.f42 {F : ZFt} (h : Fgc F) := (h.1.1.1.1.1.1.1.1.1).f42
def Fgc.f44 {F : ZFt} (h : Fgc F) := (h.1.1.1.1.1.1.1.1.1).f44
def Fgc.f186 {F : ZFt} (h : Fgc F) := (h.1.1.1.1.1.1.1.1.1).f186
def Fgc.f188 {F : ZFt} (h : Fgc F) := (h.1.1.1.1.1.1.1.1.1).f188
theorem Fgc.ri {F : ZFt} (h : Fgc F) : Fri F := h.1.1.1.1.1.1.1.1.1.1
def Fgc.f35 {F : ZFt} (h : Fgc F) := (h.1.1.1.1.1.1.1.1.1.1).f35
def Fgc.f36 {F : ZFt} (h : Fgc F) := (h.1.1.1.1.1.1.1.1.1.1).f36
def Fgc.f37 {F : ZFt} (h : Fgc F) := (h.1.1.1.1.1.1.1.1.1.1).f37
def Fgc.f178 {F : ZFt} (h : Fgc F) := (h.1.1.1.1.1.1.1.1.1.1).f178
def Fgc.f180 {F : ZFt} (h : Fgc F) := (h.1.1.1.1.1.1.1.1.1.1).f180
theorem Fgc.ch {F : ZFt} (h : Fgc F) : Fch F := h.1.1.1.1.1.1.1.1.1.1.1
def Fgc.f1 {F : ZFt} (h : Fgc F) := (h.1.1.1.1.1.1.1.1.1.1.1).f1
def Fgc.f2 {F : ZFt} (h : Fgc F) := (h.1.1.1.1.1.1.1.1.1.1.1).f2
def Fgc.f3 {F : ZFt} (h : Fgc F) := (h.1.1.1.1.1.1.1.1.1.1.1).f3
def Fgc.f4 {F : ZFt} (h : Fgc F) := (h.1.1.1.1.1.1.1.1.1.1.1).f4
def Fgc.f5 {F : ZFt} (h : Fgc F) := (h.1.1.1.1.1.1.1.1.1.1.1).f5
def Fgc.f153 {F : ZFt} (h : Fgc F) := (h.1.1.1.1.1.1.1.1.1.1.1).f153
def Fgc.f154 {F : ZFt} (h : Fgc F) := (h.1.1.1.1.1.1.1.1.1.1.1).f154
def Fgc.f155 {F : ZFt} (h : Fgc F) := (h.1.1.1.1.1.1.1.1.1.1.1).f155
def Fgc.f156 {F : ZFt} (h : Fgc F) := (h.1.1.1.1.1.1.1.1.1.1.1).f156
def Fgc.f157 {F : ZFt} (h : Fgc F) := (h.1.1.1.1.1.1.1.1.1.1.1).f157
theorem Fgc.kn {F : ZFt} (h : Fgc F) : Fkn F := h.1.1.1.1.1.1.1.1.1.1.1.1
def Fgc.f164 {F : ZFt} (h : Fgc F) := (h.1.1.1.1.1.1.1.1.1.1.1.1).f164
def Fgc.f165 {F : ZFt} (h : Fgc F) := (h.1.1.1.1.1.1.1.1.1.1.1.1).f165
def Fgc.f166 {F : ZFt} (h : Fgc F) := (h.1.1.1.1.1.1.1.1.1.1.1.1).f166
def Fgc.f81 {F : ZFt} (h : Fgc F) := (h.1.1.1.1.1.1.1.1.1.1.1.1).f81
def Fgc.f84 {F : ZFt} (h : Fgc F) := (h.1.1.1.1.1.1.1.1.1.1.1.1).f84
def Fgc.f85 {F : ZFt} (h : Fgc F) := (h.1.1.1.1.1.1.1.1.1.1.1.1).f85
def Fgc.f86 {F : ZFt} (h : Fgc F) := (h.1.1.1.1.1.1.1.1.1.1.1.1).f86
def Fgc.f87 {F : ZFt} (h : Fgc F) := (h.1.1.1.1.1.1.1.1.1.1.1.1).f87
theorem Fgc.ma {F : ZFt} (h : Fgc F) : Fma F := h.1.1.1.1.1.1.1.1.1.1.1.1.1
def Fgc.f137 {F : ZFt} (h : Fgc F) := (h.1.1.1.1.1.1.1.1.1.1.1.1.1).f137
def Fgc.f175 {F : ZFt} (h : Fgc F) := (h.1.1.1.1.1.1.1.1.1.1.1.1.1).f175
theorem Fgc.sm {F : ZFt} (h : Fgc F) : Fsm F := h.1.1.1.1.1.1.1.1.1.1.1.1.1.1
def Fgc.f174 {F : ZFt} (h : Fgc F) := (h.1.1.1.1.1.1.1.1.1.1.1.1.1.1).f174
def Fgc.f191 {F : ZFt} (h : Fgc F) := (h.1.1.1.1.1.1.1.1.1.1.1.1.1.1).f191
theorem Fgc.dr {F : ZFt} (h : Fgc F) : Fdr F := h.1.1.1.1.1.1.1.1.1.1.1.1.1.1.1
def Fgc.f11 {F : ZFt} (h : Fgc F) := (h.1.1.1.1.1.1.1.1.1.1.1.1.1.1.1).f11
def Fgc.f12 {F : ZFt} (h : Fgc F) := (h.1.1.1.1.1.1.1.1.1.1.1.1.1.1.1).f12
def Fgc.f13 {F : ZFt} (h : Fgc F) := (h.1.1.1.1.1.1.1.1.1.1.1.1.1.1.1).f13
def Fgc.f14 {F : ZFt} (h : Fgc F) := (h.1.1.1.1.1.1.1.1.1.1.1.1.1.1.1).f14
def Fgc.f15 {F : ZFt} (h : Fgc F) := (h.1.1.1.1.1.1.1.1.1.1.1.1.1.1.1).f15
def Fgc.f16 {F : ZFt} (h : Fgc F) := (h.1.1.1.1.1.1.1.1.1.1.1.1.1.1.1).f16
def Fgc.f17 {F : ZFt} (h : Fgc F) := (h.1.1.1.1.1.1.1.1.1.1.1.1.1.1.1).f17
def Fgc.f80 {F : ZFt} (h : Fgc F) := (h.1.1.1.1.1.1.1.1.1.1.1.1.1.1.1).f80
def Fgc.f138 {F : ZFt} (h : Fgc F) := (h.1.1.1.1.1.1.1.1.1.1.1.1.1.1.1).f138
def Fgc.f141 {F : ZFt} (h : Fgc F) := (h.1.1.1.1.1.1.1.1.1.1.1.1.1.1.1).f141
def Fgc.f143 {F : ZFt} (h : Fgc F) := (h.1.1.1.1.1.1.1.1.1.1.1.1.1.1.1).f143
def Fgc.f145 {F : ZFt} (h : Fgc F) := (h.1.1.1.1.1.1.1.1.1.1.1.1.1.1.1).f145
theorem Fgc.a {F : ZFt} (h : Fgc F) : Fa F := h.1.1.1.1.1.1.1.1.1.1.1.1.1.1.1.a
def Fgc.f129 {F : ZFt} (h : Fgc F) := (h.1.1.1.1.1.1.1.1.1.1.1.1.1.1.1.a).f129
def Fgc.f130 {F : ZFt} (h : Fgc F) := (h.1.1.1.1.1.1.1.1.1.1.1.1.1.1.1.a).f130
def Fgc.f132 {F : ZFt} (h : Fgc F) := (h.1.1.1.1.1.1.1.1.1.1.1.1.1.1.1.a).f132
def Fgc.f135 {F : ZFt} (h : Fgc F) := (h.1.1.1.1.1.1.1.1.1.1.1.1.1.1.1.a).f135
def Fgc.f136 {F : ZFt} (h : Fgc F) := (h.1.1.1.1.1.1.1.1.1.1.1.1.1.1.1.a).f136
section KO2
variable {F : ZFt} {d : Nat} {μ ν : ZM} {P : Option Value → ZM → Prop} {n p : Nat} {Z : List ZD}
theorem k9 {a0 b0 : Nat} (hgc : Fgc F) (ha : a0 < 2 ^ 63) (hb : b0 ≤ 891 ^ 6) (h : P (some (.long (Ln (Nat.gcd a0 b0)))) μ) : KK Zx F (d + 1) 9 [.long (Ln a0), .long (Ln b0)] μ P := by
  have hb6 : (891 : Nat) ^ 6 < 2 ^ 63 := by decide
  have hfa := fa_big
  rw [← eu_g 100 a0 b0 (show b0 < fa 101 0 1 by omega)] at h
  refine KK_in bd_9 rfl (Nat.le_of_ble_eq_true rfl) ?_; simp (disch := first | omega | (simp (disch := omega) only [forall_eq', Value.category, or_true, true_or, Option.isSome_some, Option.getD_some, true_and, and_true, and_self, forall_const, reduceCtorEq, Bool.false_eq_true, ite_true, ite_false, reduceIte, Nat.reduceLT, Nat.reduceLeDiff, Nat.reduceEqDiff, Nat.reduceAdd, Nat.reduceMul, decide_true, decide_false, Bool.true_and, Bool.and_true, Bool.false_and, Bool.and_false, Bool.or_false, Bool.false_or, not_true_eq_false, not_false_eq_true, Classical.not_not, false_implies, implies_true, decide_eq_true_eq, decide_eq_false_iff_not, Bool.not_eq_true, Bool.not_eq_false, Bool.not_eq_eq_eq_not, Bool.and_eq_true, Bool.or_eq_true, Bool.not_true, Bool.not_false, exists_eq_left, Option.some.injEq, Value.int.injEq, Value.long.injEq, Value.ref.injEq, zofN, znr0, zvpN, nI_clamp, nI_ltI, nI_leI, nI_eq, nI_a1, zN_lt, zN_le, zN_gt, zN_ge, zN_eq, zN_m1, Nat.zero_le, zLE, zi_eq0, zi01b, zi01c, zlast])) only [bd_9, sSeq, sIf, sSkip, sDecI, sDecL, sDecR, sSetI, sSetL, sInc, sRetI, sRetZ, sRetL, sRetR, sRetV, sScope, sPut, sPutL, sUpd, sSt, sStL, sStU, sStUL, sCpy, sCpyL, sCS, sCV, sSw, zsw, sBrk, xP, xCS, xCV, xNz, xI, xAnd, xOr, xNot, xT, xB, xInc, xPre, xIncL, xEq, eK, eV, eW, eR, eB, eU, eD, eT, eI, eAnd, eOr, eNot, eF, eFL, eFR, eA, eAL, eAR, eN, eCS, eCV, aN, aI, aL, aR, zen, zli, zlj, zlr, zob, rdI, rdL, rdR, zfk, List.cons_append, List.nil_append, List.set_cons_zero, List.set_cons_succ, List.take_succ_cons, List.take_zero, List.length_cons, List.length_nil, List.getElem?_cons_zero, List.getElem?_cons_succ, forall_eq', Value.category, or_true, true_or, Option.isSome_some, Option.getD_some, true_and, and_true, and_self, forall_const, reduceCtorEq, Bool.false_eq_true, ite_true, ite_false, reduceIte, Nat.reduceLT, Nat.reduceLeDiff, Nat.reduceEqDiff, Nat.reduceAdd, Nat.reduceMul, decide_true, decide_false, Bool.true_and, Bool.and_true, Bool.false_and, Bool.and_false, Bool.or_false, Bool.false_or, not_true_eq_false, not_false_eq_true, Classical.not_not, false_implies, implies_true, decide_eq_true_eq, decide_eq_false_iff_not, Bool.not_eq_true, Bool.not_eq_false, Bool.not_eq_eq_eq_not, Bool.and_eq_true, Bool.or_eq_true, Bool.not_true, Bool.not_false, exists_eq_left, Option.some.injEq, Value.int.injEq, Value.long.injEq, Value.ref.injEq, zFx0, zFx1, zFx2, zFx3, zFx4, zFx5, zFx6, zFx7, zFx8, zFx9, zFx10, zFx11, zFx12, zFx13, zFx14, zFm0, zFm1, zFm2, zFm3, zFm4, zofN, znr0, zvpN, nI_clamp, nI_ltI, nI_leI, nI_eq, nI_a1, zN_lt, zN_le, zN_gt, zN_ge, zN_eq, zN_m1, Nat.zero_le, zLE, zi_eq0, zi01b, zi01c, zlast, hgc.f9, hgc.f18, hgc.f19, hgc.f56, hgc.f57, hgc.f134, hgc.f133, hgc.f20, hgc.f10, hgc.f88, hgc.f45, hgc.f78, hgc.f53, hgc.f32, hgc.f74, hgc.f61, hgc.f34, hgc.f127, hgc.f211, hgc.f73, hgc.f72, hgc.f209, hgc.f216, hgc.f29, hgc.f31, hgc.f30, hgc.f28, hgc.f27, hgc.f204, hgc.f205, hgc.f76, hgc.f77, hgc.f217, hgc.f187, hgc.f43, hgc.f42, hgc.f44, hgc.f186, hgc.f188, hgc.f35, hgc.f36, hgc.f37, hgc.f178, hgc.f180, hgc.f1, hgc.f2, hgc.f3, hgc.f4, hgc.f5, hgc.f153, hgc.f154, hgc.f155, hgc.f156, hgc.f157, hgc.f164, hgc.f165, hgc.f166, hgc.f81, hgc.f84, hgc.f85, hgc.f86, hgc.f87, hgc.f137, hgc.f175, hgc.f174, hgc.f191, hgc.f11, hgc.f12, hgc.f13, hgc.f14, hgc.f15, hgc.f16, hgc.f17, hgc.f80, hgc.f138, hgc.f141, hgc.f143, hgc.f145, hgc.f129, hgc.f130, hgc.f132, hgc.f135, hgc.f136, k129, k130, k132, k135, k11, k12, zset_self, k136 hgc.a, k143 hgc.dr, k174 hgc.dr, k191 hgc.dr]
  refine whl_up 100 (fun i σ => ∃ a b : Nat, σ = ([.long (Ln a0), .null, .long (Ln b0), .null, .long (Ln a), .null, .long (Ln b), .null, .int (nI i)], μ) ∧ a < 2 ^ 63 ∧ b < 2 ^ 63 ∧ eu (100 - i) a b = eu 100 a0 b0) ⟨a0, b0, rfl, ha, by omega, rfl⟩ ?_
  rintro i σ Nx hNx hi ⟨a, b, rfl, ha1, hb1, he⟩
  by_cases hin : i < 100
  · by_cases hb0 : b = 0
    · subst hb0
      rw [eu_0] at he
      subst he
      have e0 : (Ln 0 = 0) = True := eq_true rfl
      simp (disch := first | omega | (simp (disch := omega) only [forall_eq', Value.category, or_true, true_or, Option.isSome_some, Option.getD_some, true_and, and_true, and_self, forall_const, reduceCtorEq, Bool.false_eq_true, ite_true, ite_false, reduceIte, Nat.reduceLT, Nat.reduceLeDiff, Nat.reduceEqDiff, Nat.reduceAdd, Nat.reduceMul, decide_true, decide_false, Bool.true_and, Bool.and_true, Bool.false_and, Bool.and_false, Bool.or_false, Bool.false_or, not_true_eq_false, not_false_eq_true, Classical.not_not, false_implies, implies_true, decide_eq_true_eq, decide_eq_false_iff_not, Bool.not_eq_true, Bool.not_eq_false, Bool.not_eq_eq_eq_not, Bool.and_eq_true, Bool.or_eq_true, Bool.not_true, Bool.not_false, exists_eq_left, Option.some.injEq, Value.int.injEq, Value.long.injEq, Value.ref.injEq, zofN, znr0, zvpN, nI_clamp, nI_ltI, nI_leI, nI_eq, nI_a1, zN_lt, zN_le, zN_gt, zN_ge, zN_eq, zN_m1, Nat.zero_le, zLE, zi_eq0, zi01b, zi01c, zlast, hin, e0])) only [sSeq, sIf, sSkip, sDecI, sDecL, sDecR, sSetI, sSetL, sInc, sRetI, sRetZ, sRetL, sRetR, sRetV, sScope, sPut, sPutL, sUpd, sSt, sStL, sStU, sStUL, sCpy, sCpyL, sCS, sCV, sSw, zsw, sBrk, xP, xCS, xCV, xNz, xI, xAnd, xOr, xNot, xT, xB, xInc, xPre, xIncL, xEq, eK, eV, eW, eR, eB, eU, eD, eT, eI, eAnd, eOr, eNot, eF, eFL, eFR, eA, eAL, eAR, eN, eCS, eCV, aN, aI, aL, aR, zen, zli, zlj, zlr, zob, rdI, rdL, rdR, zfk, List.cons_append, List.nil_append, List.set_cons_zero, List.set_cons_succ, List.take_succ_cons, List.take_zero, List.length_cons, List.length_nil, List.getElem?_cons_zero, List.getElem?_cons_succ, forall_eq', Value.category, or_true, true_or, Option.isSome_some, Option.getD_some, true_and, and_true, and_self, forall_const, reduceCtorEq, Bool.false_eq_true, ite_true, ite_false, reduceIte, Nat.reduceLT, Nat.reduceLeDiff, Nat.reduceEqDiff, Nat.reduceAdd, Nat.reduceMul, decide_true, decide_false, Bool.true_and, Bool.and_true, Bool.false_and, Bool.and_false, Bool.or_false, Bool.false_or, not_true_eq_false, not_false_eq_true, Classical.not_not, false_implies, implies_true, decide_eq_true_eq, decide_eq_false_iff_not, Bool.not_eq_true, Bool.not_eq_false, Bool.not_eq_eq_eq_not, Bool.and_eq_true, Bool.or_eq_true, Bool.not_true, Bool.not_false, exists_eq_left, Option.some.injEq, Value.int.injEq, Value.long.injEq, Value.ref.injEq, zFx0, zFx1, zFx2, zFx3, zFx4, zFx5, zFx6, zFx7, zFx8, zFx9, zFx10, zFx11, zFx12, zFx13, zFx14, zFm0, zFm1, zFm2, zFm3, zFm4, zofN, znr0, zvpN, nI_clamp, nI_ltI, nI_leI, nI_eq, nI_a1, zN_lt, zN_le, zN_gt, zN_ge, zN_eq, zN_m1, Nat.zero_le, zLE, zi_eq0, zi01b, zi01c, zlast, hgc.f9, hgc.f18, hgc.f19, hgc.f56, hgc.f57, hgc.f134, hgc.f133, hgc.f20, hgc.f10, hgc.f88, hgc.f45, hgc.f78, hgc.f53, hgc.f32, hgc.f74, hgc.f61, hgc.f34, hgc.f127, hgc.f211, hgc.f73, hgc.f72, hgc.f209, hgc.f216, hgc.f29, hgc.f31, hgc.f30, hgc.f28, hgc.f27, hgc.f204, hgc.f205, hgc.f76, hgc.f77, hgc.f217, hgc.f187, hgc.f43, hgc.f42, hgc.f44, hgc.f186, hgc.f188, hgc.f35, hgc.f36, hgc.f37, hgc.f178, hgc.f180, hgc.f1, hgc.f2, hgc.f3, hgc.f4, hgc.f5, hgc.f153, hgc.f154, hgc.f155, hgc.f156, hgc.f157, hgc.f164, hgc.f165, hgc.f166, hgc.f81, hgc.f84, hgc.f85, hgc.f86, hgc.f87, hgc.f137, hgc.f175, hgc.f174, hgc.f191, hgc.f11, hgc.f12, hgc.f13, hgc.f14, hgc.f15, hgc.f16, hgc.f17, hgc.f80, hgc.f138, hgc.f141, hgc.f143, hgc.f145, hgc.f129, hgc.f130, hgc.f132, hgc.f135, hgc.f136, k129, k130, k132, k135, k11, k12, zset_self, k136 hgc.a, k143 hgc.dr, k174 hgc.dr, k191 hgc.dr, hin, e0]
      exact h
    · have hm := Nat.mod_lt a (Nat.pos_of_ne_zero hb0)
      have hN := hNx _ hin ⟨b, a % b, rfl, hb1, by omega, by
        rw [← he, show 100 - i = (100 - (i + 1)) + 1 by omega, eu, if_neg hb0]⟩
      have e0 : (Ln b = 0) = False := eq_false (fun z => by
        have h3 : (Ln b = Ln 0) := z
        rw [Ln_inj (by omega) (by omega)] at h3
        exact hb0 h3)
      simp (disch := first | omega | (simp (disch := omega) only [forall_eq', Value.category, or_true, true_or, Option.isSome_some, Option.getD_some, true_and, and_true, and_self, forall_const, reduceCtorEq, Bool.false_eq_true, ite_true, ite_false, reduceIte, Nat.reduceLT, Nat.reduceLeDiff, Nat.reduceEqDiff, Nat.reduceAdd, Nat.reduceMul, decide_true, decide_false, Bool.true_and, Bool.and_true, Bool.false_and, Bool.and_false, Bool.or_false, Bool.false_or, not_true_eq_false, not_false_eq_true, Classical.not_not, false_implies, implies_true, decide_eq_true_eq, decide_eq_false_iff_not, Bool.not_eq_true, Bool.not_eq_false, Bool.not_eq_eq_eq_not, Bool.and_eq_true, Bool.or_eq_true, Bool.not_true, Bool.not_false, exists_eq_left, Option.some.injEq, Value.int.injEq, Value.long.injEq, Value.ref.injEq, zofN, znr0, zvpN, nI_clamp, nI_ltI, nI_leI, nI_eq, nI_a1, zN_lt, zN_le, zN_gt, zN_ge, zN_eq, zN_m1, Nat.zero_le, zLE, zi_eq0, zi01b, zi01c, zlast, hin, e0, Ln_mod ha1 hb1])) only [sSeq, sIf, sSkip, sDecI, sDecL, sDecR, sSetI, sSetL, sInc, sRetI, sRetZ, sRetL, sRetR, sRetV, sScope, sPut, sPutL, sUpd, sSt, sStL, sStU, sStUL, sCpy, sCpyL, sCS, sCV, sSw, zsw, sBrk, xP, xCS, xCV, xNz, xI, xAnd, xOr, xNot, xT, xB, xInc, xPre, xIncL, xEq, eK, eV, eW, eR, eB, eU, eD, eT, eI, eAnd, eOr, eNot, eF, eFL, eFR, eA, eAL, eAR, eN, eCS, eCV, aN, aI, aL, aR, zen, zli, zlj, zlr, zob, rdI, rdL, rdR, zfk, List.cons_append, List.nil_append, List.set_cons_zero, List.set_cons_succ, List.take_succ_cons, List.take_zero, List.length_cons, List.length_nil, List.getElem?_cons_zero, List.getElem?_cons_succ, forall_eq', Value.category, or_true, true_or, Option.isSome_some, Option.getD_some, true_and, and_true, and_self, forall_const, reduceCtorEq, Bool.false_eq_true, ite_true, ite_false, reduceIte, Nat.reduceLT, Nat.reduceLeDiff, Nat.reduceEqDiff, Nat.reduceAdd, Nat.reduceMul, decide_true, decide_false, Bool.true_and, Bool.and_true, Bool.false_and, Bool.and_false, Bool.or_false, Bool.false_or, not_true_eq_false, not_false_eq_true, Classical.not_not, false_implies, implies_true, decide_eq_true_eq, decide_eq_false_iff_not, Bool.not_eq_true, Bool.not_eq_false, Bool.not_eq_eq_eq_not, Bool.and_eq_true, Bool.or_eq_true, Bool.not_true, Bool.not_false, exists_eq_left, Option.some.injEq, Value.int.injEq, Value.long.injEq, Value.ref.injEq, zFx0, zFx1, zFx2, zFx3, zFx4, zFx5, zFx6, zFx7, zFx8, zFx9, zFx10, zFx11, zFx12, zFx13, zFx14, zFm0, zFm1, zFm2, zFm3, zFm4, zofN, znr0, zvpN, nI_clamp, nI_ltI, nI_leI, nI_eq, nI_a1, zN_lt, zN_le, zN_gt, zN_ge, zN_eq, zN_m1, Nat.zero_le, zLE, zi_eq0, zi01b, zi01c, zlast, hgc.f9, hgc.f18, hgc.f19, hgc.f56, hgc.f57, hgc.f134, hgc.f133, hgc.f20, hgc.f10, hgc.f88, hgc.f45, hgc.f78, hgc.f53, hgc.f32, hgc.f74, hgc.f61, hgc.f34, hgc.f127, hgc.f211, hgc.f73, hgc.f72, hgc.f209, hgc.f216, hgc.f29, hgc.f31, hgc.f30, hgc.f28, hgc.f27, hgc.f204, hgc.f205, hgc.f76, hgc.f77, hgc.f217, hgc.f187, hgc.f43, hgc.f42, hgc.f44, hgc.f186, hgc.f188, hgc.f35, hgc.f36, hgc.f37, hgc.f178, hgc.f180, hgc.f1, hgc.f2, hgc.f3, hgc.f4, hgc.f5, hgc.f153, hgc.f154, hgc.f155, hgc.f156, hgc.f157, hgc.f164, hgc.f165, hgc.f166, hgc.f81, hgc.f84, hgc.f85, hgc.f86, hgc.f87, hgc.f137, hgc.f175, hgc.f174, hgc.f191, hgc.f11, hgc.f12, hgc.f13, hgc.f14, hgc.f15, hgc.f16, hgc.f17, hgc.f80, hgc.f138, hgc.f141, hgc.f143, hgc.f145, hgc.f129, hgc.f130, hgc.f132, hgc.f135, hgc.f136, k129, k130, k132, k135, k11, k12, zset_self, k136 hgc.a, k143 hgc.dr, k174 hgc.dr, k191 hgc.dr, hin, e0, Ln_mod ha1 hb1]
      exact hN
  · rw [show i = 100 by omega] at he ⊢
    have he : a = eu 100 a0 b0 := he
    rw [← he] at h
    simp (disch := first | omega | (simp (disch := omega) only [forall_eq', Value.category, or_true, true_or, Option.isSome_some, Option.getD_some, true_and, and_true, and_self, forall_const, reduceCtorEq, Bool.false_eq_true, ite_true, ite_false, reduceIte, Nat.reduceLT, Nat.reduceLeDiff, Nat.reduceEqDiff, Nat.reduceAdd, Nat.reduceMul, decide_true, decide_false, Bool.true_and, Bool.and_true, Bool.false_and, Bool.and_false, Bool.or_false, Bool.false_or, not_true_eq_false, not_false_eq_true, Classical.not_not, false_implies, implies_true, decide_eq_true_eq, decide_eq_false_iff_not, Bool.not_eq_true, Bool.not_eq_false, Bool.not_eq_eq_eq_not, Bool.and_eq_true, Bool.or_eq_true, Bool.not_true, Bool.not_false, exists_eq_left, Option.some.injEq, Value.int.injEq, Value.long.injEq, Value.ref.injEq, zofN, znr0, zvpN, nI_clamp, nI_ltI, nI_leI, nI_eq, nI_a1, zN_lt, zN_le, zN_gt, zN_ge, zN_eq, zN_m1, Nat.zero_le, zLE, zi_eq0, zi01b, zi01c, zlast, Nat.lt_irrefl])) only [sSeq, sIf, sSkip, sDecI, sDecL, sDecR, sSetI, sSetL, sInc, sRetI, sRetZ, sRetL, sRetR, sRetV, sScope, sPut, sPutL, sUpd, sSt, sStL, sStU, sStUL, sCpy, sCpyL, sCS, sCV, sSw, zsw, sBrk, xP, xCS, xCV, xNz, xI, xAnd, xOr, xNot, xT, xB, xInc, xPre, xIncL, xEq, eK, eV, eW, eR, eB, eU, eD, eT, eI, eAnd, eOr, eNot, eF, eFL, eFR, eA, eAL, eAR, eN, eCS, eCV, aN, aI, aL, aR, zen, zli, zlj, zlr, zob, rdI, rdL, rdR, zfk, List.cons_append, List.nil_append, List.set_cons_zero, List.set_cons_succ, List.take_succ_cons, List.take_zero, List.length_cons, List.length_nil, List.getElem?_cons_zero, List.getElem?_cons_succ, forall_eq', Value.category, or_true, true_or, Option.isSome_some, Option.getD_some, true_and, and_true, and_self, forall_const, reduceCtorEq, Bool.false_eq_true, ite_true, ite_false, reduceIte, Nat.reduceLT, Nat.reduceLeDiff, Nat.reduceEqDiff, Nat.reduceAdd, Nat.reduceMul, decide_true, decide_false, Bool.true_and, Bool.and_true, Bool.false_and, Bool.and_false, Bool.or_false, Bool.false_or, not_true_eq_false, not_false_eq_true, Classical.not_not, false_implies, implies_true, decide_eq_true_eq, decide_eq_false_iff_not, Bool.not_eq_true, Bool.not_eq_false, Bool.not_eq_eq_eq_not, Bool.and_eq_true, Bool.or_eq_true, Bool.not_true, Bool.not_false, exists_eq_left, Option.some.injEq, Value.int.injEq, Value.long.injEq, Value.ref.injEq, zFx0, zFx1, zFx2, zFx3, zFx4, zFx5, zFx6, zFx7, zFx8, zFx9, zFx10, zFx11, zFx12, zFx13, zFx14, zFm0, zFm1, zFm2, zFm3, zFm4, zofN, znr0, zvpN, nI_clamp, nI_ltI, nI_leI, nI_eq, nI_a1, zN_lt, zN_le, zN_gt, zN_ge, zN_eq, zN_m1, Nat.zero_le, zLE, zi_eq0, zi01b, zi01c, zlast, hgc.f9, hgc.f18, hgc.f19, hgc.f56, hgc.f57, hgc.f134, hgc.f133, hgc.f20, hgc.f10, hgc.f88, hgc.f45, hgc.f78, hgc.f53, hgc.f32, hgc.f74, hgc.f61, hgc.f34, hgc.f127, hgc.f211, hgc.f73, hgc.f72, hgc.f209, hgc.f216, hgc.f29, hgc.f31, hgc.f30, hgc.f28, hgc.f27, hgc.f204, hgc.f205, hgc.f76, hgc.f77, hgc.f217, hgc.f187, hgc.f43, hgc.f42, hgc.f44, hgc.f186, hgc.f188, hgc.f35, hgc.f36, hgc.f37, hgc.f178, hgc.f180, hgc.f1, hgc.f2, hgc.f3, hgc.f4, hgc.f5, hgc.f153, hgc.f154, hgc.f155, hgc.f156, hgc.f157, hgc.f164, hgc.f165, hgc.f166, hgc.f81, hgc.f84, hgc.f85, hgc.f86, hgc.f87, hgc.f137, hgc.f175, hgc.f174, hgc.f191, hgc.f11, hgc.f12, hgc.f13, hgc.f14, hgc.f15, hgc.f16, hgc.f17, hgc.f80, hgc.f138, hgc.f141, hgc.f143, hgc.f145, hgc.f129, hgc.f130, hgc.f132, hgc.f135, hgc.f136, k129, k130, k132, k135, k11, k12, zset_self, k136 hgc.a, k143 hgc.dr, k174 hgc.dr, k191 hgc.dr, Nat.lt_irrefl]
    exact h
def goS (W : Nat → Nat) (cnd : Nat → Bool) (n : Nat) : Nat := nS n (fun k => if cnd k then W k else 0)
def cnO (g lo hi : Int32) (k : Nat) : Bool := decide (lo ≤ g + nI k - 24) && decide (g + nI k - 24 ≤ hi)
theorem go_le (W : Nat → Nat) (cnd : Nat → Bool) (n : Nat) : goS W cnd n ≤ nS n W := nS_le (fun i => by split <;> omega) n
theorem k6 {c : Nat} {q : Nat → Nat} {S : Nat → Bool} {O : Nat → Nat → Nat} {side : Int32} (hgc : Fgc F) (hc : CX1 μ c n q) (hS : ∀ i, i < n → μ.1 (25 + c) i = if S i then 1 else -1) (hO : ∀ i, i < n → ∀ e, e < 9 → μ.1 (6 + q i) e = nI (O i e) ∧ O i e ≤ 99)
    (h : ∀ l2 : Nat → Nat → Int64, P (some (.long (if side = 0 then Ln (goS (wyS S O n) (cnO (gapX μ c) (μ.1 22 c) (μ.1 23 c)) 49 / Nat.gcd (moS O n) (goS (wyS S O n) (cnO (gapX μ c) (μ.1 22 c) (μ.1 23 c)) 49)) else Ln (moS O n / Nat.gcd (moS O n) (goS (wyS S O n) (cnO (gapX μ c) (μ.1 22 c) (μ.1 23 c)) 49))))) (μ.1, l2)) : KK Zx F (d + 5) 6 [.ref 20, .int (nI c), .int side, .ref 1] μ P := by
  obtain ⟨W, hW⟩ : ∃ W, W = wyS S O n := ⟨_, rfl⟩
  obtain ⟨cn, hcn⟩ : ∃ cn, cn = cnO (gapX μ c) (μ.1 22 c) (μ.1 23 c) := ⟨_, rfl⟩
  obtain ⟨h1, h2, h3, h4, h5⟩ := id hc
  have hm := mo_eq (S := S) (O := O) h2
  obtain ⟨m1, m2⟩ := mo_le (O := O) (j := n) fun i hi e he => (hO i hi e he).2
  have m3 : (891 : Nat) ^ n ≤ 891 ^ 6 := Nat.pow_le_pow_right (by decide) h2
  have m4 : (891 : Nat) ^ 6 < 2 ^ 63 := by decide
  have hg := go_le W cn
  rw [← hW] at hm h
  rw [← hcn] at h
  refine KK_in bd_6 rfl (Nat.le_of_ble_eq_true rfl) ?_; simp (disch := first | omega | (simp (disch := omega) only [forall_eq', Value.category, or_true, true_or, Option.isSome_some, Option.getD_some, true_and, and_true, and_self, forall_const, reduceCtorEq, Bool.false_eq_true, ite_true, ite_false, reduceIte, Nat.reduceLT, Nat.reduceLeDiff, Nat.reduceEqDiff, Nat.reduceAdd, Nat.reduceMul, decide_true, decide_false, Bool.true_and, Bool.and_true, Bool.false_and, Bool.and_false, Bool.or_false, Bool.false_or, not_true_eq_false, not_false_eq_true, Classical.not_not, false_implies, implies_true, decide_eq_true_eq, decide_eq_false_iff_not, Bool.not_eq_true, Bool.not_eq_false, Bool.not_eq_eq_eq_not, Bool.and_eq_true, Bool.or_eq_true, Bool.not_true, Bool.not_false, exists_eq_left, Option.some.injEq, Value.int.injEq, Value.long.injEq, Value.ref.injEq, zofN, znr0, zvpN, nI_clamp, nI_ltI, nI_leI, nI_eq, nI_a1, zN_lt, zN_le, zN_gt, zN_ge, zN_eq, zN_m1, Nat.zero_le, zLE, zi_eq0, zi01b, zi01c, zlast])) only [bd_6, sSeq, sIf, sSkip, sDecI, sDecL, sDecR, sSetI, sSetL, sInc, sRetI, sRetZ, sRetL, sRetR, sRetV, sScope, sPut, sPutL, sUpd, sSt, sStL, sStU, sStUL, sCpy, sCpyL, sCS, sCV, sSw, zsw, sBrk, xP, xCS, xCV, xNz, xI, xAnd, xOr, xNot, xT, xB, xInc, xPre, xIncL, xEq, eK, eV, eW, eR, eB, eU, eD, eT, eI, eAnd, eOr, eNot, eF, eFL, eFR, eA, eAL, eAR, eN, eCS, eCV, aN, aI, aL, aR, zen, zli, zlj, zlr, zob, rdI, rdL, rdR, zfk, List.cons_append, List.nil_append, List.set_cons_zero, List.set_cons_succ, List.take_succ_cons, List.take_zero, List.length_cons, List.length_nil, List.getElem?_cons_zero, List.getElem?_cons_succ, forall_eq', Value.category, or_true, true_or, Option.isSome_some, Option.getD_some, true_and, and_true, and_self, forall_const, reduceCtorEq, Bool.false_eq_true, ite_true, ite_false, reduceIte, Nat.reduceLT, Nat.reduceLeDiff, Nat.reduceEqDiff, Nat.reduceAdd, Nat.reduceMul, decide_true, decide_false, Bool.true_and, Bool.and_true, Bool.false_and, Bool.and_false, Bool.or_false, Bool.false_or, not_true_eq_false, not_false_eq_true, Classical.not_not, false_implies, implies_true, decide_eq_true_eq, decide_eq_false_iff_not, Bool.not_eq_true, Bool.not_eq_false, Bool.not_eq_eq_eq_not, Bool.and_eq_true, Bool.or_eq_true, Bool.not_true, Bool.not_false, exists_eq_left, Option.some.injEq, Value.int.injEq, Value.long.injEq, Value.ref.injEq, zFx0, zFx1, zFx2, zFx3, zFx4, zFx5, zFx6, zFx7, zFx8, zFx9, zFx10, zFx11, zFx12, zFx13, zFx14, zFm0, zFm1, zFm2, zFm3, zFm4, zofN, znr0, zvpN, nI_clamp, nI_ltI, nI_leI, nI_eq, nI_a1, zN_lt, zN_le, zN_gt, zN_ge, zN_eq, zN_m1, Nat.zero_le, zLE, zi_eq0, zi01b, zi01c, zlast, hgc.f9, hgc.f18, hgc.f19, hgc.f56, hgc.f57, hgc.f134, hgc.f133, hgc.f20, hgc.f10, hgc.f88, hgc.f45, hgc.f78, hgc.f53, hgc.f32, hgc.f74, hgc.f61, hgc.f34, hgc.f127, hgc.f211, hgc.f73, hgc.f72, hgc.f209, hgc.f216, hgc.f29, hgc.f31, hgc.f30, hgc.f28, hgc.f27, hgc.f204, hgc.f205, hgc.f76, hgc.f77, hgc.f217, hgc.f187, hgc.f43, hgc.f42, hgc.f44, hgc.f186, hgc.f188, hgc.f35, hgc.f36, hgc.f37, hgc.f178, hgc.f180, hgc.f1, hgc.f2, hgc.f3, hgc.f4, hgc.f5, hgc.f153, hgc.f154, hgc.f155, hgc.f156, hgc.f157, hgc.f164, hgc.f165, hgc.f166, hgc.f81, hgc.f84, hgc.f85, hgc.f86, hgc.f87, hgc.f137, hgc.f175, hgc.f174, hgc.f191, hgc.f11, hgc.f12, hgc.f13, hgc.f14, hgc.f15, hgc.f16, hgc.f17, hgc.f80, hgc.f138, hgc.f141, hgc.f143, hgc.f145, hgc.f129, hgc.f130, hgc.f132, hgc.f135, hgc.f136, k129, k130, k132, k135, k11, k12, zset_self, k136 hgc.a, k143 hgc.dr, k174 hgc.dr, k191 hgc.dr]
  refine k7 (S := S) (O := O) hgc.of hc hS hO fun l2 w1 => ⟨rfl, ?_⟩
  rw [← hW] at w1
  have hc2 : CX1 (μ.1, l2) c n q := hc
  have eg : gapX (μ.1, l2) c = gapX μ c := rfl
  simp (disch := first | omega | (simp (disch := omega) only [forall_eq', Value.category, or_true, true_or, Option.isSome_some, Option.getD_some, true_and, and_true, and_self, forall_const, reduceCtorEq, Bool.false_eq_true, ite_true, ite_false, reduceIte, Nat.reduceLT, Nat.reduceLeDiff, Nat.reduceEqDiff, Nat.reduceAdd, Nat.reduceMul, decide_true, decide_false, Bool.true_and, Bool.and_true, Bool.false_and, Bool.and_false, Bool.or_false, Bool.false_or, not_true_eq_false, not_false_eq_true, Classical.not_not, false_implies, implies_true, decide_eq_true_eq, decide_eq_false_iff_not, Bool.not_eq_true, Bool.not_eq_false, Bool.not_eq_eq_eq_not, Bool.and_eq_true, Bool.or_eq_true, Bool.not_true, Bool.not_false, exists_eq_left, Option.some.injEq, Value.int.injEq, Value.long.injEq, Value.ref.injEq, zofN, znr0, zvpN, nI_clamp, nI_ltI, nI_leI, nI_eq, nI_a1, zN_lt, zN_le, zN_gt, zN_ge, zN_eq, zN_m1, Nat.zero_le, zLE, zi_eq0, zi01b, zi01c, zlast, k2 hgc.ch hc2, eg])) only [sSeq, sIf, sSkip, sDecI, sDecL, sDecR, sSetI, sSetL, sInc, sRetI, sRetZ, sRetL, sRetR, sRetV, sScope, sPut, sPutL, sUpd, sSt, sStL, sStU, sStUL, sCpy, sCpyL, sCS, sCV, sSw, zsw, sBrk, xP, xCS, xCV, xNz, xI, xAnd, xOr, xNot, xT, xB, xInc, xPre, xIncL, xEq, eK, eV, eW, eR, eB, eU, eD, eT, eI, eAnd, eOr, eNot, eF, eFL, eFR, eA, eAL, eAR, eN, eCS, eCV, aN, aI, aL, aR, zen, zli, zlj, zlr, zob, rdI, rdL, rdR, zfk, List.cons_append, List.nil_append, List.set_cons_zero, List.set_cons_succ, List.take_succ_cons, List.take_zero, List.length_cons, List.length_nil, List.getElem?_cons_zero, List.getElem?_cons_succ, forall_eq', Value.category, or_true, true_or, Option.isSome_some, Option.getD_some, true_and, and_true, and_self, forall_const, reduceCtorEq, Bool.false_eq_true, ite_true, ite_false, reduceIte, Nat.reduceLT, Nat.reduceLeDiff, Nat.reduceEqDiff, Nat.reduceAdd, Nat.reduceMul, decide_true, decide_false, Bool.true_and, Bool.and_true, Bool.false_and, Bool.and_false, Bool.or_false, Bool.false_or, not_true_eq_false, not_false_eq_true, Classical.not_not, false_implies, implies_true, decide_eq_true_eq, decide_eq_false_iff_not, Bool.not_eq_true, Bool.not_eq_false, Bool.not_eq_eq_eq_not, Bool.and_eq_true, Bool.or_eq_true, Bool.not_true, Bool.not_false, exists_eq_left, Option.some.injEq, Value.int.injEq, Value.long.injEq, Value.ref.injEq, zFx0, zFx1, zFx2, zFx3, zFx4, zFx5, zFx6, zFx7, zFx8, zFx9, zFx10, zFx11, zFx12, zFx13, zFx14, zFm0, zFm1, zFm2, zFm3, zFm4, zofN, znr0, zvpN, nI_clamp, nI_ltI, nI_leI, nI_eq, nI_a1, zN_lt, zN_le, zN_gt, zN_ge, zN_eq, zN_m1, Nat.zero_le, zLE, zi_eq0, zi01b, zi01c, zlast, hgc.f9, hgc.f18, hgc.f19, hgc.f56, hgc.f57, hgc.f134, hgc.f133, hgc.f20, hgc.f10, hgc.f88, hgc.f45, hgc.f78, hgc.f53, hgc.f32, hgc.f74, hgc.f61, hgc.f34, hgc.f127, hgc.f211, hgc.f73, hgc.f72, hgc.f209, hgc.f216, hgc.f29, hgc.f31, hgc.f30, hgc.f28, hgc.f27, hgc.f204, hgc.f205, hgc.f76, hgc.f77, hgc.f217, hgc.f187, hgc.f43, hgc.f42, hgc.f44, hgc.f186, hgc.f188, hgc.f35, hgc.f36, hgc.f37, hgc.f178, hgc.f180, hgc.f1, hgc.f2, hgc.f3, hgc.f4, hgc.f5, hgc.f153, hgc.f154, hgc.f155, hgc.f156, hgc.f157, hgc.f164, hgc.f165, hgc.f166, hgc.f81, hgc.f84, hgc.f85, hgc.f86, hgc.f87, hgc.f137, hgc.f175, hgc.f174, hgc.f191, hgc.f11, hgc.f12, hgc.f13, hgc.f14, hgc.f15, hgc.f16, hgc.f17, hgc.f80, hgc.f138, hgc.f141, hgc.f143, hgc.f145, hgc.f129, hgc.f130, hgc.f132, hgc.f135, hgc.f136, k129, k130, k132, k135, k11, k12, zset_self, k136 hgc.a, k143 hgc.dr, k174 hgc.dr, k191 hgc.dr, k2 hgc.ch hc2, eg]
  refine whl_up 49 (fun i σ => σ = ([.ref 20, .int (nI c), .int side, .ref 1, .int (gapX μ c), .long (Ln (goS W cn i)), .null, .long (Ln (nS i W)), .null, .int (nI i)], (μ.1, l2))) rfl ?_
  rintro i σ Nx hNx hi rfl
  by_cases hin : i < 49
  · have hN := hNx _ hin rfl
    have e1 : goS W cn (i + 1) = goS W cn i + if cn i then W i else 0 := rfl
    have e2 : nS (i + 1) W = nS i W + W i := rfl
    have ew := w1 i hin
    have ec : cn i = (decide (μ.1 22 c ≤ gapX μ c + nI i - 24) && decide (gapX μ c + nI i - 24 ≤ μ.1 23 c)) := by rw [hcn]; rfl
    rw [e1, e2, Ln_add, Ln_add] at hN
    by_cases q1 : μ.1 22 c ≤ gapX μ c + nI i - 24
    · by_cases q2 : gapX μ c + nI i - 24 ≤ μ.1 23 c
      · rw [ec, decide_eq_true q1, decide_eq_true q2] at hN
        simp (disch := first | omega | (simp (disch := omega) only [forall_eq', Value.category, or_true, true_or, Option.isSome_some, Option.getD_some, true_and, and_true, and_self, forall_const, reduceCtorEq, Bool.false_eq_true, ite_true, ite_false, reduceIte, Nat.reduceLT, Nat.reduceLeDiff, Nat.reduceEqDiff, Nat.reduceAdd, Nat.reduceMul, decide_true, decide_false, Bool.true_and, Bool.and_true, Bool.false_and, Bool.and_false, Bool.or_false, Bool.false_or, not_true_eq_false, not_false_eq_true, Classical.not_not, false_implies, implies_true, decide_eq_true_eq, decide_eq_false_iff_not, Bool.not_eq_true, Bool.not_eq_false, Bool.not_eq_eq_eq_not, Bool.and_eq_true, Bool.or_eq_true, Bool.not_true, Bool.not_false, exists_eq_left, Option.some.injEq, Value.int.injEq, Value.long.injEq, Value.ref.injEq, zofN, znr0, zvpN, nI_clamp, nI_ltI, nI_leI, nI_eq, nI_a1, zN_lt, zN_le, zN_gt, zN_ge, zN_eq, zN_m1, Nat.zero_le, zLE, zi_eq0, zi01b, zi01c, zlast, hin, h1, ew, q1, q2, decide_true])) only [sSeq, sIf, sSkip, sDecI, sDecL, sDecR, sSetI, sSetL, sInc, sRetI, sRetZ, sRetL, sRetR, sRetV, sScope, sPut, sPutL, sUpd, sSt, sStL, sStU, sStUL, sCpy, sCpyL, sCS, sCV, sSw, zsw, sBrk, xP, xCS, xCV, xNz, xI, xAnd, xOr, xNot, xT, xB, xInc, xPre, xIncL, xEq, eK, eV, eW, eR, eB, eU, eD, eT, eI, eAnd, eOr, eNot, eF, eFL, eFR, eA, eAL, eAR, eN, eCS, eCV, aN, aI, aL, aR, zen, zli, zlj, zlr, zob, rdI, rdL, rdR, zfk, List.cons_append, List.nil_append, List.set_cons_zero, List.set_cons_succ, List.take_succ_cons, List.take_zero, List.length_cons, List.length_nil, List.getElem?_cons_zero, List.getElem?_cons_succ, forall_eq', Value.category, or_true, true_or, Option.isSome_some, Option.getD_some, true_and, and_true, and_self, forall_const, reduceCtorEq, Bool.false_eq_true, ite_true, ite_false, reduceIte, Nat.reduceLT, Nat.reduceLeDiff, Nat.reduceEqDiff, Nat.reduceAdd, Nat.reduceMul, decide_true, decide_false, Bool.true_and, Bool.and_true, Bool.false_and, Bool.and_false, Bool.or_false, Bool.false_or, not_true_eq_false, not_false_eq_true, Classical.not_not, false_implies, implies_true, decide_eq_true_eq, decide_eq_false_iff_not, Bool.not_eq_true, Bool.not_eq_false, Bool.not_eq_eq_eq_not, Bool.and_eq_true, Bool.or_eq_true, Bool.not_true, Bool.not_false, exists_eq_left, Option.some.injEq, Value.int.injEq, Value.long.injEq, Value.ref.injEq, zFx0, zFx1, zFx2, zFx3, zFx4, zFx5, zFx6, zFx7, zFx8, zFx9, zFx10, zFx11, zFx12, zFx13, zFx14, zFm0, zFm1, zFm2, zFm3, zFm4, zofN, znr0, zvpN, nI_clamp, nI_ltI, nI_leI, nI_eq, nI_a1, zN_lt, zN_le, zN_gt, zN_ge, zN_eq, zN_m1, Nat.zero_le, zLE, zi_eq0, zi01b, zi01c, zlast, hgc.f9, hgc.f18, hgc.f19, hgc.f56, hgc.f57, hgc.f134, hgc.f133, hgc.f20, hgc.f10, hgc.f88, hgc.f45, hgc.f78, hgc.f53, hgc.f32, hgc.f74, hgc.f61, hgc.f34, hgc.f127, hgc.f211, hgc.f73, hgc.f72, hgc.f209, hgc.f216, hgc.f29, hgc.f31, hgc.f30, hgc.f28, hgc.f27, hgc.f204, hgc.f205, hgc.f76, hgc.f77, hgc.f217, hgc.f187, hgc.f43, hgc.f42, hgc.f44, hgc.f186, hgc.f188, hgc.f35, hgc.f36, hgc.f37, hgc.f178, hgc.f180, hgc.f1, hgc.f2, hgc.f3, hgc.f4, hgc.f5, hgc.f153, hgc.f154, hgc.f155, hgc.f156, hgc.f157, hgc.f164, hgc.f165, hgc.f166, hgc.f81, hgc.f84, hgc.f85, hgc.f86, hgc.f87, hgc.f137, hgc.f175, hgc.f174, hgc.f191, hgc.f11, hgc.f12, hgc.f13, hgc.f14, hgc.f15, hgc.f16, hgc.f17, hgc.f80, hgc.f138, hgc.f141, hgc.f143, hgc.f145, hgc.f129, hgc.f130, hgc.f132, hgc.f135, hgc.f136, k129, k130, k132, k135, k11, k12, zset_self, k136 hgc.a, k143 hgc.dr, k174 hgc.dr, k191 hgc.dr, hin, h1, ew, q1, q2, decide_true]
        exact hN
      · rw [ec, decide_eq_true q1, decide_eq_false q2] at hN
        simp only [Bool.and_false, Bool.false_eq_true, if_false] at hN
        rw [show Ln 0 = 0 from rfl, Int64.add_zero] at hN
        simp (disch := first | omega | (simp (disch := omega) only [forall_eq', Value.category, or_true, true_or, Option.isSome_some, Option.getD_some, true_and, and_true, and_self, forall_const, reduceCtorEq, Bool.false_eq_true, ite_true, ite_false, reduceIte, Nat.reduceLT, Nat.reduceLeDiff, Nat.reduceEqDiff, Nat.reduceAdd, Nat.reduceMul, decide_true, decide_false, Bool.true_and, Bool.and_true, Bool.false_and, Bool.and_false, Bool.or_false, Bool.false_or, not_true_eq_false, not_false_eq_true, Classical.not_not, false_implies, implies_true, decide_eq_true_eq, decide_eq_false_iff_not, Bool.not_eq_true, Bool.not_eq_false, Bool.not_eq_eq_eq_not, Bool.and_eq_true, Bool.or_eq_true, Bool.not_true, Bool.not_false, exists_eq_left, Option.some.injEq, Value.int.injEq, Value.long.injEq, Value.ref.injEq, zofN, znr0, zvpN, nI_clamp, nI_ltI, nI_leI, nI_eq, nI_a1, zN_lt, zN_le, zN_gt, zN_ge, zN_eq, zN_m1, Nat.zero_le, zLE, zi_eq0, zi01b, zi01c, zlast, hin, h1, ew, q1, q2])) only [sSeq, sIf, sSkip, sDecI, sDecL, sDecR, sSetI, sSetL, sInc, sRetI, sRetZ, sRetL, sRetR, sRetV, sScope, sPut, sPutL, sUpd, sSt, sStL, sStU, sStUL, sCpy, sCpyL, sCS, sCV, sSw, zsw, sBrk, xP, xCS, xCV, xNz, xI, xAnd, xOr, xNot, xT, xB, xInc, xPre, xIncL, xEq, eK, eV, eW, eR, eB, eU, eD, eT, eI, eAnd, eOr, eNot, eF, eFL, eFR, eA, eAL, eAR, eN, eCS, eCV, aN, aI, aL, aR, zen, zli, zlj, zlr, zob, rdI, rdL, rdR, zfk, List.cons_append, List.nil_append, List.set_cons_zero, List.set_cons_succ, List.take_succ_cons, List.take_zero, List.length_cons, List.length_nil, List.getElem?_cons_zero, List.getElem?_cons_succ, forall_eq', Value.category, or_true, true_or, Option.isSome_some, Option.getD_some, true_and, and_true, and_self, forall_const, reduceCtorEq, Bool.false_eq_true, ite_true, ite_false, reduceIte, Nat.reduceLT, Nat.reduceLeDiff, Nat.reduceEqDiff, Nat.reduceAdd, Nat.reduceMul, decide_true, decide_false, Bool.true_and, Bool.and_true, Bool.false_and, Bool.and_false, Bool.or_false, Bool.false_or, not_true_eq_false, not_false_eq_true, Classical.not_not, false_implies, implies_true, decide_eq_true_eq, decide_eq_false_iff_not, Bool.not_eq_true, Bool.not_eq_false, Bool.not_eq_eq_eq_not, Bool.and_eq_true, Bool.or_eq_true, Bool.not_true, Bool.not_false, exists_eq_left, Option.some.injEq, Value.int.injEq, Value.long.injEq, Value.ref.injEq, zFx0, zFx1, zFx2, zFx3, zFx4, zFx5, zFx6, zFx7, zFx8, zFx9, zFx10, zFx11, zFx12, zFx13, zFx14, zFm0, zFm1, zFm2, zFm3, zFm4, zofN, znr0, zvpN, nI_clamp, nI_ltI, nI_leI, nI_eq, nI_a1, zN_lt, zN_le, zN_gt, zN_ge, zN_eq, zN_m1, Nat.zero_le, zLE, zi_eq0, zi01b, zi01c, zlast, hgc.f9, hgc.f18, hgc.f19, hgc.f56, hgc.f57, hgc.f134, hgc.f133, hgc.f20, hgc.f10, hgc.f88, hgc.f45, hgc.f78, hgc.f53, hgc.f32, hgc.f74, hgc.f61, hgc.f34, hgc.f127, hgc.f211, hgc.f73, hgc.f72, hgc.f209, hgc.f216, hgc.f29, hgc.f31, hgc.f30, hgc.f28, hgc.f27, hgc.f204, hgc.f205, hgc.f76, hgc.f77, hgc.f217, hgc.f187, hgc.f43, hgc.f42, hgc.f44, hgc.f186, hgc.f188, hgc.f35, hgc.f36, hgc.f37, hgc.f178, hgc.f180, hgc.f1, hgc.f2, hgc.f3, hgc.f4, hgc.f5, hgc.f153, hgc.f154, hgc.f155, hgc.f156, hgc.f157, hgc.f164, hgc.f165, hgc.f166, hgc.f81, hgc.f84, hgc.f85, hgc.f86, hgc.f87, hgc.f137, hgc.f175, hgc.f174, hgc.f191, hgc.f11, hgc.f12, hgc.f13, hgc.f14, hgc.f15, hgc.f16, hgc.f17, hgc.f80, hgc.f138, hgc.f141, hgc.f143, hgc.f145, hgc.f129, hgc.f130, hgc.f132, hgc.f135, hgc.f136, k129, k130, k132, k135, k11, k12, zset_self, k136 hgc.a, k143 hgc.dr, k174 hgc.dr, k191 hgc.dr, hin, h1, ew, q1, q2]
        exact hN
    · rw [ec, decide_eq_false q1] at hN
      simp only [Bool.false_and, Bool.false_eq_true, if_false] at hN
      rw [show Ln 0 = 0 from rfl, Int64.add_zero] at hN
      simp (disch := first | omega | (simp (disch := omega) only [forall_eq', Value.category, or_true, true_or, Option.isSome_some, Option.getD_some, true_and, and_true, and_self, forall_const, reduceCtorEq, Bool.false_eq_true, ite_true, ite_false, reduceIte, Nat.reduceLT, Nat.reduceLeDiff, Nat.reduceEqDiff, Nat.reduceAdd, Nat.reduceMul, decide_true, decide_false, Bool.true_and, Bool.and_true, Bool.false_and, Bool.and_false, Bool.or_false, Bool.false_or, not_true_eq_false, not_false_eq_true, Classical.not_not, false_implies, implies_true, decide_eq_true_eq, decide_eq_false_iff_not, Bool.not_eq_true, Bool.not_eq_false, Bool.not_eq_eq_eq_not, Bool.and_eq_true, Bool.or_eq_true, Bool.not_true, Bool.not_false, exists_eq_left, Option.some.injEq, Value.int.injEq, Value.long.injEq, Value.ref.injEq, zofN, znr0, zvpN, nI_clamp, nI_ltI, nI_leI, nI_eq, nI_a1, zN_lt, zN_le, zN_gt, zN_ge, zN_eq, zN_m1, Nat.zero_le, zLE, zi_eq0, zi01b, zi01c, zlast, hin, h1, ew, q1])) only [sSeq, sIf, sSkip, sDecI, sDecL, sDecR, sSetI, sSetL, sInc, sRetI, sRetZ, sRetL, sRetR, sRetV, sScope, sPut, sPutL, sUpd, sSt, sStL, sStU, sStUL, sCpy, sCpyL, sCS, sCV, sSw, zsw, sBrk, xP, xCS, xCV, xNz, xI, xAnd, xOr, xNot, xT, xB, xInc, xPre, xIncL, xEq, eK, eV, eW, eR, eB, eU, eD, eT, eI, eAnd, eOr, eNot, eF, eFL, eFR, eA, eAL, eAR, eN, eCS, eCV, aN, aI, aL, aR, zen, zli, zlj, zlr, zob, rdI, rdL, rdR, zfk, List.cons_append, List.nil_append, List.set_cons_zero, List.set_cons_succ, List.take_succ_cons, List.take_zero, List.length_cons, List.length_nil, List.getElem?_cons_zero, List.getElem?_cons_succ, forall_eq', Value.category, or_true, true_or, Option.isSome_some, Option.getD_some, true_and, and_true, and_self, forall_const, reduceCtorEq, Bool.false_eq_true, ite_true, ite_false, reduceIte, Nat.reduceLT, Nat.reduceLeDiff, Nat.reduceEqDiff, Nat.reduceAdd, Nat.reduceMul, decide_true, decide_false, Bool.true_and, Bool.and_true, Bool.false_and, Bool.and_false, Bool.or_false, Bool.false_or, not_true_eq_false, not_false_eq_true, Classical.not_not, false_implies, implies_true, decide_eq_true_eq, decide_eq_false_iff_not, Bool.not_eq_true, Bool.not_eq_false, Bool.not_eq_eq_eq_not, Bool.and_eq_true, Bool.or_eq_true, Bool.not_true, Bool.not_false, exists_eq_left, Option.some.injEq, Value.int.injEq, Value.long.injEq, Value.ref.injEq, zFx0, zFx1, zFx2, zFx3, zFx4, zFx5, zFx6, zFx7, zFx8, zFx9, zFx10, zFx11, zFx12, zFx13, zFx14, zFm0, zFm1, zFm2, zFm3, zFm4, zofN, znr0, zvpN, nI_clamp, nI_ltI, nI_leI, nI_eq, nI_a1, zN_lt, zN_le, zN_gt, zN_ge, zN_eq, zN_m1, Nat.zero_le, zLE, zi_eq0, zi01b, zi01c, zlast, hgc.f9, hgc.f18, hgc.f19, hgc.f56, hgc.f57, hgc.f134, hgc.f133, hgc.f20, hgc.f10, hgc.f88, hgc.f45, hgc.f78, hgc.f53, hgc.f32, hgc.f74, hgc.f61, hgc.f34, hgc.f127, hgc.f211, hgc.f73, hgc.f72, hgc.f209, hgc.f216, hgc.f29, hgc.f31, hgc.f30, hgc.f28, hgc.f27, hgc.f204, hgc.f205, hgc.f76, hgc.f77, hgc.f217, hgc.f187, hgc.f43, hgc.f42, hgc.f44, hgc.f186, hgc.f188, hgc.f35, hgc.f36, hgc.f37, hgc.f178, hgc.f180, hgc.f1, hgc.f2, hgc.f3, hgc.f4, hgc.f5, hgc.f153, hgc.f154, hgc.f155, hgc.f156, hgc.f157, hgc.f164, hgc.f165, hgc.f166, hgc.f81, hgc.f84, hgc.f85, hgc.f86, hgc.f87, hgc.f137, hgc.f175, hgc.f174, hgc.f191, hgc.f11, hgc.f12, hgc.f13, hgc.f14, hgc.f15, hgc.f16, hgc.f17, hgc.f80, hgc.f138, hgc.f141, hgc.f143, hgc.f145, hgc.f129, hgc.f130, hgc.f132, hgc.f135, hgc.f136, k129, k130, k132, k135, k11, k12, zset_self, k136 hgc.a, k143 hgc.dr, k174 hgc.dr, k191 hgc.dr, hin, h1, ew, q1]
      exact hN
  · rw [show i = 49 by omega]
    have g1 := hg 49
    rw [hm] at g1 ⊢
    obtain ⟨M, hM⟩ : ∃ M, M = moS O n := ⟨_, rfl⟩
    obtain ⟨G, hG⟩ : ∃ G, G = goS W cn 49 := ⟨_, rfl⟩
    rw [← hM] at g1 m1 m2 h ⊢
    rw [← hG] at g1 h ⊢
    have hD : 0 < Nat.gcd M G := Nat.gcd_pos_of_pos_left _ m1
    have hD2 : Nat.gcd M G ≤ M := Nat.gcd_le_left _ m1
    have h9 := gcI_L (a := M) (b := G) (by omega) (by omega)
    have eD : (Ln (Nat.gcd M G) = 0) = False := eq_false (fun z => by
      have h3 : (Ln (Nat.gcd M G) = Ln 0) := z
      rw [Ln_inj (by omega) (by omega)] at h3
      omega)
    have v1 := Ln_div (a := M) (b := Nat.gcd M G) (by omega) (by omega)
    have v2 := Ln_div (a := G) (b := Nat.gcd M G) (by omega) (by omega)
    have M63 : M < 2 ^ 63 := by omega
    have G6 : G ≤ 891 ^ 6 := by omega
    have hh := h l2
    by_cases hs : side = 0
    · rw [if_pos hs] at hh
      simp (disch := first | omega | (simp (disch := omega) only [forall_eq', Value.category, or_true, true_or, Option.isSome_some, Option.getD_some, true_and, and_true, and_self, forall_const, reduceCtorEq, Bool.false_eq_true, ite_true, ite_false, reduceIte, Nat.reduceLT, Nat.reduceLeDiff, Nat.reduceEqDiff, Nat.reduceAdd, Nat.reduceMul, decide_true, decide_false, Bool.true_and, Bool.and_true, Bool.false_and, Bool.and_false, Bool.or_false, Bool.false_or, not_true_eq_false, not_false_eq_true, Classical.not_not, false_implies, implies_true, decide_eq_true_eq, decide_eq_false_iff_not, Bool.not_eq_true, Bool.not_eq_false, Bool.not_eq_eq_eq_not, Bool.and_eq_true, Bool.or_eq_true, Bool.not_true, Bool.not_false, exists_eq_left, Option.some.injEq, Value.int.injEq, Value.long.injEq, Value.ref.injEq, zofN, znr0, zvpN, nI_clamp, nI_ltI, nI_leI, nI_eq, nI_a1, zN_lt, zN_le, zN_gt, zN_ge, zN_eq, zN_m1, Nat.zero_le, zLE, zi_eq0, zi01b, zi01c, zlast, h9, eD, v1, v2, hs, Nat.lt_irrefl, k9 (μ := (μ.1, l2)) hgc M63 G6])) only [sSeq, sIf, sSkip, sDecI, sDecL, sDecR, sSetI, sSetL, sInc, sRetI, sRetZ, sRetL, sRetR, sRetV, sScope, sPut, sPutL, sUpd, sSt, sStL, sStU, sStUL, sCpy, sCpyL, sCS, sCV, sSw, zsw, sBrk, xP, xCS, xCV, xNz, xI, xAnd, xOr, xNot, xT, xB, xInc, xPre, xIncL, xEq, eK, eV, eW, eR, eB, eU, eD, eT, eI, eAnd, eOr, eNot, eF, eFL, eFR, eA, eAL, eAR, eN, eCS, eCV, aN, aI, aL, aR, zen, zli, zlj, zlr, zob, rdI, rdL, rdR, zfk, List.cons_append, List.nil_append, List.set_cons_zero, List.set_cons_succ, List.take_succ_cons, List.take_zero, List.length_cons, List.length_nil, List.getElem?_cons_zero, List.getElem?_cons_succ, forall_eq', Value.category, or_true, true_or, Option.isSome_some, Option.getD_some, true_and, and_true, and_self, forall_const, reduceCtorEq, Bool.false_eq_true, ite_true, ite_false, reduceIte, Nat.reduceLT, Nat.reduceLeDiff, Nat.reduceEqDiff, Nat.reduceAdd, Nat.reduceMul, decide_true, decide_false, Bool.true_and, Bool.and_true, Bool.false_and, Bool.and_false, Bool.or_false, Bool.false_or, not_true_eq_false, not_false_eq_true, Classical.not_not, false_implies, implies_true, decide_eq_true_eq, decide_eq_false_iff_not, Bool.not_eq_true, Bool.not_eq_false, Bool.not_eq_eq_eq_not, Bool.and_eq_true, Bool.or_eq_true, Bool.not_true, Bool.not_false, exists_eq_left, Option.some.injEq, Value.int.injEq, Value.long.injEq, Value.ref.injEq, zFx0, zFx1, zFx2, zFx3, zFx4, zFx5, zFx6, zFx7, zFx8, zFx9, zFx10, zFx11, zFx12, zFx13, zFx14, zFm0, zFm1, zFm2, zFm3, zFm4, zofN, znr0, zvpN, nI_clamp, nI_ltI, nI_leI, nI_eq, nI_a1, zN_lt, zN_le, zN_gt, zN_ge, zN_eq, zN_m1, Nat.zero_le, zLE, zi_eq0, zi01b, zi01c, zlast, hgc.f9, hgc.f18, hgc.f19, hgc.f56, hgc.f57, hgc.f134, hgc.f133, hgc.f20, hgc.f10, hgc.f88, hgc.f45, hgc.f78, hgc.f53, hgc.f32, hgc.f74, hgc.f61, hgc.f34, hgc.f127, hgc.f211, hgc.f73, hgc.f72, hgc.f209, hgc.f216, hgc.f29, hgc.f31, hgc.f30, hgc.f28, hgc.f27, hgc.f204, hgc.f205, hgc.f76, hgc.f77, hgc.f217, hgc.f187, hgc.f43, hgc.f42, hgc.f44, hgc.f186, hgc.f188, hgc.f35, hgc.f36, hgc.f37, hgc.f178, hgc.f180, hgc.f1, hgc.f2, hgc.f3, hgc.f4, hgc.f5, hgc.f153, hgc.f154, hgc.f155, hgc.f156, hgc.f157, hgc.f164, hgc.f165, hgc.f166, hgc.f81, hgc.f84, hgc.f85, hgc.f86, hgc.f87, hgc.f137, hgc.f175, hgc.f174, hgc.f191, hgc.f11, hgc.f12, hgc.f13, hgc.f14, hgc.f15, hgc.f16, hgc.f17, hgc.f80, hgc.f138, hgc.f141, hgc.f143, hgc.f145, hgc.f129, hgc.f130, hgc.f132, hgc.f135, hgc.f136, k129, k130, k132, k135, k11, k12, zset_self, k136 hgc.a, k143 hgc.dr, k174 hgc.dr, k191 hgc.dr, h9, eD, v1, v2, hs, Nat.lt_irrefl, k9 (μ := (μ.1, l2)) hgc M63 G6]
      exact hh
    · rw [if_neg hs] at hh
      simp (disch := first | omega | (simp (disch := omega) only [forall_eq', Value.category, or_true, true_or, Option.isSome_some, Option.getD_some, true_and, and_true, and_self, forall_const, reduceCtorEq, Bool.false_eq_true, ite_true, ite_false, reduceIte, Nat.reduceLT, Nat.reduceLeDiff, Nat.reduceEqDiff, Nat.reduceAdd, Nat.reduceMul, decide_true, decide_false, Bool.true_and, Bool.and_true, Bool.false_and, Bool.and_false, Bool.or_false, Bool.false_or, not_true_eq_false, not_false_eq_true, Classical.not_not, false_implies, implies_true, decide_eq_true_eq, decide_eq_false_iff_not, Bool.not_eq_true, Bool.not_eq_false, Bool.not_eq_eq_eq_not, Bool.and_eq_true, Bool.or_eq_true, Bool.not_true, Bool.not_false, exists_eq_left, Option.some.injEq, Value.int.injEq, Value.long.injEq, Value.ref.injEq, zofN, znr0, zvpN, nI_clamp, nI_ltI, nI_leI, nI_eq, nI_a1, zN_lt, zN_le, zN_gt, zN_ge, zN_eq, zN_m1, Nat.zero_le, zLE, zi_eq0, zi01b, zi01c, zlast, h9, eD, v1, v2, hs, Nat.lt_irrefl, k9 (μ := (μ.1, l2)) hgc M63 G6])) only [sSeq, sIf, sSkip, sDecI, sDecL, sDecR, sSetI, sSetL, sInc, sRetI, sRetZ, sRetL, sRetR, sRetV, sScope, sPut, sPutL, sUpd, sSt, sStL, sStU, sStUL, sCpy, sCpyL, sCS, sCV, sSw, zsw, sBrk, xP, xCS, xCV, xNz, xI, xAnd, xOr, xNot, xT, xB, xInc, xPre, xIncL, xEq, eK, eV, eW, eR, eB, eU, eD, eT, eI, eAnd, eOr, eNot, eF, eFL, eFR, eA, eAL, eAR, eN, eCS, eCV, aN, aI, aL, aR, zen, zli, zlj, zlr, zob, rdI, rdL, rdR, zfk, List.cons_append, List.nil_append, List.set_cons_zero, List.set_cons_succ, List.take_succ_cons, List.take_zero, List.length_cons, List.length_nil, List.getElem?_cons_zero, List.getElem?_cons_succ, forall_eq', Value.category, or_true, true_or, Option.isSome_some, Option.getD_some, true_and, and_true, and_self, forall_const, reduceCtorEq, Bool.false_eq_true, ite_true, ite_false, reduceIte, Nat.reduceLT, Nat.reduceLeDiff, Nat.reduceEqDiff, Nat.reduceAdd, Nat.reduceMul, decide_true, decide_false, Bool.true_and, Bool.and_true, Bool.false_and, Bool.and_false, Bool.or_false, Bool.false_or, not_true_eq_false, not_false_eq_true, Classical.not_not, false_implies, implies_true, decide_eq_true_eq, decide_eq_false_iff_not, Bool.not_eq_true, Bool.not_eq_false, Bool.not_eq_eq_eq_not, Bool.and_eq_true, Bool.or_eq_true, Bool.not_true, Bool.not_false, exists_eq_left, Option.some.injEq, Value.int.injEq, Value.long.injEq, Value.ref.injEq, zFx0, zFx1, zFx2, zFx3, zFx4, zFx5, zFx6, zFx7, zFx8, zFx9, zFx10, zFx11, zFx12, zFx13, zFx14, zFm0, zFm1, zFm2, zFm3, zFm4, zofN, znr0, zvpN, nI_clamp, nI_ltI, nI_leI, nI_eq, nI_a1, zN_lt, zN_le, zN_gt, zN_ge, zN_eq, zN_m1, Nat.zero_le, zLE, zi_eq0, zi01b, zi01c, zlast, hgc.f9, hgc.f18, hgc.f19, hgc.f56, hgc.f57, hgc.f134, hgc.f133, hgc.f20, hgc.f10, hgc.f88, hgc.f45, hgc.f78, hgc.f53, hgc.f32, hgc.f74, hgc.f61, hgc.f34, hgc.f127, hgc.f211, hgc.f73, hgc.f72, hgc.f209, hgc.f216, hgc.f29, hgc.f31, hgc.f30, hgc.f28, hgc.f27, hgc.f204, hgc.f205, hgc.f76, hgc.f77, hgc.f217, hgc.f187, hgc.f43, hgc.f42, hgc.f44, hgc.f186, hgc.f188, hgc.f35, hgc.f36, hgc.f37, hgc.f178, hgc.f180, hgc.f1, hgc.f2, hgc.f3, hgc.f4, hgc.f5, hgc.f153, hgc.f154, hgc.f155, hgc.f156, hgc.f157, hgc.f164, hgc.f165, hgc.f166, hgc.f81, hgc.f84, hgc.f85, hgc.f86, hgc.f87, hgc.f137, hgc.f175, hgc.f174, hgc.f191, hgc.f11, hgc.f12, hgc.f13, hgc.f14, hgc.f15, hgc.f16, hgc.f17, hgc.f80, hgc.f138, hgc.f141, hgc.f143, hgc.f145, hgc.f129, hgc.f130, hgc.f132, hgc.f135, hgc.f136, k129, k130, k132, k135, k11, k12, zset_self, k136 hgc.a, k143 hgc.dr, k174 hgc.dr, k191 hgc.dr, h9, eD, v1, v2, hs, Nat.lt_irrefl, k9 (μ := (μ.1, l2)) hgc M63 G6]
      exact hh
end KO2
