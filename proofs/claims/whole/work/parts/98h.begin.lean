/-! LAYER B: what a new object and a new reference hold is related -/
def In0 (μ : ZM) : Prop := (∀ k, k < 8 → μ.1 3 k = 100) ∧ (∀ g, g < 4 → μ.1 14 g = nI (8 / 2 ^ g)) ∧ (∀ g, g < 4 → μ.1 15 g = nI (2 ^ g)) ∧ (∀ m, m < 6 → ∀ p, p < 8 → μ.1 (126 + m) p = -1) ∧ (∀ t, t < 24 → μ.1 132 t = -1) ∧ (∀ s, s < 4 → μ.1 136 s = 8) ∧ ∀ a k, a ≠ 3 → a ≠ 14 → a ≠ 15 → (a < 126 ∨ 132 < a) → a ≠ 136 → μ.1 a k = 0
def Jn0 (ν : ZM) : Prop := (∀ k, k < 8 → ν.1 2 k = 100) ∧ (∀ g, g < 4 → ν.1 4 g = nI (8 / 2 ^ g)) ∧ (∀ g, g < 4 → ν.1 5 g = nI (2 ^ g)) ∧ (∀ k, k < 48 → ν.1 18 k = -1) ∧ (∀ s, s < 4 → ν.1 20 s = 8) ∧ ∀ a k, a ≠ 2 → a ≠ 4 → a ≠ 5 → a ≠ 18 → a ≠ 20 → ν.1 a k = 0
theorem rq0 {n : Nat} {lo hi : Int} {f g : Nat → Int32} {v : Int32} (h1 : ∀ p, p < n → f p = v) (h2 : ∀ p, p < n → g p = v) (h3 : lo ≤ v.toInt) (h4 : v.toInt ≤ hi) : REq n lo hi f g := fun p hp => by
  rw [h1 p hp, h2 p hp]
  exact ⟨rfl, h3, h4⟩
theorem rq20 {n m : Nat} {lo hi : Int} {f : Nat → Nat → Int32} {g : Nat → Int32} {v : Int32} (h1 : ∀ p, p < n → ∀ k, k < m → f p k = v) (h2 : ∀ p, p < n → ∀ k, k < m → g (m * p + k) = v) (h3 : lo ≤ v.toInt) (h4 : v.toInt ≤ hi) : REq2 n m lo hi f g := fun p hp k hk => by
  rw [h1 p hp k hk, h2 p hp k hk]
  exact ⟨rfl, h3, h4⟩
theorem rc0 {c : Int32} {lo hi : Int} {f g : Nat → Int32} (h : c = 0) : REc c lo hi f g := by
  unfold REc
  rw [h]
  exact fun p hp => absurd hp (by rw [show (0 : Int32).toNatClampNeg = 0 by decide]; omega)
theorem rel_0 {μ ν : ZM} (h : In0 μ) (g : Jn0 ν) : Rel μ ν := by
  obtain ⟨h1, h2, h3, h4, h5, h6, h7⟩ := h
  obtain ⟨g1, g2, g3, g4, g5, g6⟩ := g
  have c0 : (0 : Int32).toNatClampNeg = 0 := by decide
  have i0 : (0 : Int32).toInt = 0 := rfl
  have z26 : ν.1 0 26 = 0 := g6 0 26 (by omega) (by omega) (by omega) (by omega) (by omega)
  have z6 : ν.1 0 6 = 0 := g6 0 6 (by omega) (by omega) (by omega) (by omega) (by omega)
  have z8 : ν.1 0 8 = 0 := g6 0 8 (by omega) (by omega) (by omega) (by omega) (by omega)
  have z15 : ν.1 0 15 = 0 := g6 0 15 (by omega) (by omega) (by omega) (by omega) (by omega)
  have z32 : ν.1 0 32 = 0 := g6 0 32 (by omega) (by omega) (by omega) (by omega) (by omega)
  have z36 : ν.1 0 36 = 0 := g6 0 36 (by omega) (by omega) (by omega) (by omega) (by omega)
  have hz : ∀ a k, a ≠ 3 → a ≠ 14 → a ≠ 15 → (a < 126 ∨ 132 < a) → a ≠ 136 → μ.1 a k = 0 := h7
  have rc : ∀ {n : Nat} {a b : Int32}, a = 0 → b = 0 → RC n a b := fun e1 e2 => ⟨0, Nat.zero_le _, e1, e2⟩
  unfold Rel
  refine ⟨rq0 (v := 0) (fun p _ => h7 2 p (by omega) (by omega) (by omega) (by omega) (by omega)) (fun p _ => g6 1 p (by omega) (by omega) (by omega) (by omega) (by omega)) (by rw [i0]; omega) (by rw [i0]; omega),
    rq0 (v := 100) h1 g1 (by decide) (by decide),
    rq0 (v := 0) (fun p _ => h7 4 p (by omega) (by omega) (by omega) (by omega) (by omega)) (fun p _ => g6 3 p (by omega) (by omega) (by omega) (by omega) (by omega)) (by rw [i0]; omega) (by rw [i0]; omega),
    fun p hp => ?_, fun p hp => ?_,
    rq20 (v := 0) (fun p hp k _ => by rw [ro_at hp]; exact h7 (6 + p) k (by omega) (by omega) (by omega) (by omega) (by omega)) (fun p _ k _ => g6 6 _ (by omega) (by omega) (by omega) (by omega) (by omega)) (by rw [i0]; omega) (by rw [i0]; omega),
    rc (h7 16 1 (by omega) (by omega) (by omega) (by omega) (by omega)) z6, rc0 z6,
    rc (h7 20 0 (by omega) (by omega) (by omega) (by omega) (by omega)) z8, ?_,
    rc (h7 40 0 (by omega) (by omega) (by omega) (by omega) (by omega)) (g6 0 14 (by omega) (by omega) (by omega) (by omega) (by omega)),
    rc (h7 61 0 (by omega) (by omega) (by omega) (by omega) (by omega)) z15, ?_, ?_,
    rq0 (v := 0) (fun p _ => h7 133 p (by omega) (by omega) (by omega) (by omega) (by omega)) (fun p _ => g6 19 p (by omega) (by omega) (by omega) (by omega) (by omega)) (by rw [i0]; omega) (by rw [i0]; omega),
    rq0 (v := 8) h6 g5 (by decide) (by decide),
    rq20 (v := 0) (fun p hp k _ => by rw [ro_at hp]; exact h7 (138 + p) k (by omega) (by omega) (by omega) (by omega) (by omega)) (fun p _ k _ => g6 21 _ (by omega) (by omega) (by omega) (by omega) (by omega)) (by rw [i0]; omega) (by rw [i0]; omega),
    rq20 (v := 0) (fun p hp k _ => by rw [ro_at hp]; exact h7 (143 + p) k (by omega) (by omega) (by omega) (by omega) (by omega)) (fun p _ k _ => g6 22 _ (by omega) (by omega) (by omega) (by omega) (by omega)) (by rw [i0]; omega) (by rw [i0]; omega),
    rq0 (v := 0) (fun p _ => h7 147 p (by omega) (by omega) (by omega) (by omega) (by omega)) (fun p _ => g6 25 p (by omega) (by omega) (by omega) (by omega) (by omega)) (by rw [i0]; omega) (by rw [i0]; omega),
    fun s hs k hk => absurd hk (by rw [g6 25 s (by omega) (by omega) (by omega) (by omega) (by omega), c0]; omega),
    rc (h7 153 0 (by omega) (by omega) (by omega) (by omega) (by omega)) z26, rc0 z26, rc0 z26, ⟨id, fun i hi => absurd hi (by rw [z26, c0]; omega), fun i j _ hj => absurd hj (by rw [z26, c0]; omega)⟩,
    rc (h7 153 4 (by omega) (by omega) (by omega) (by omega) (by omega)) (g6 0 29 (by omega) (by omega) (by omega) (by omega) (by omega)),
    rc (h7 159 0 (by omega) (by omega) (by omega) (by omega) (by omega)) z32, rc0 z32,
    rq20 (v := 0) (fun p hp k _ => by rw [ro_at hp]; exact h7 (162 + p) k (by omega) (by omega) (by omega) (by omega) (by omega)) (fun p _ k _ => g6 28 _ (by omega) (by omega) (by omega) (by omega) (by omega)) (by rw [i0]; omega) (by rw [i0]; omega),
    rq0 (v := 0) (fun p _ => h7 168 p (by omega) (by omega) (by omega) (by omega) (by omega)) (fun p _ => g6 29 p (by omega) (by omega) (by omega) (by omega) (by omega)) (by rw [i0]; omega) (by rw [i0]; omega),
    rc (h7 169 0 (by omega) (by omega) (by omega) (by omega) (by omega)) z36, rc0 z36⟩
  · rw [h2 p hp, g2 p hp]
    refine ⟨rfl, ?_⟩
    rcases (show p = 0 ∨ p = 1 ∨ p = 2 ∨ p = 3 by omega) with e | e | e | e <;> rw [e] <;> decide
  · rw [h3 p hp, g3 p hp]
    refine ⟨rfl, ?_⟩
    rcases (show p = 0 ∨ p = 1 ∨ p = 2 ∨ p = 3 by omega) with e | e | e | e <;> rw [e] <;> decide
  · rw [z8]
    exact fun c hc => absurd hc (by rw [c0]; omega)
  · rw [z15]
    refine ⟨fun t ht => absurd ht (by rw [c0]; omega), fun t _ _ => h7 64 t (by omega) (by omega) (by omega) (by omega) (by omega), ?_⟩
    rw [h7 61 1 (by omega) (by omega) (by omega) (by omega) (by omega), c0]
    rfl
  · rw [z15]
    refine ⟨fun m hm p hp => ?_, fun t ht => Or.inl (h5 t ht)⟩
    rw [ro_at hm, h4 m hm p hp, g4 _ (by omega)]
    exact ⟨rfl, Or.inl rfl⟩
