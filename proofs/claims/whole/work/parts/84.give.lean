/-! LAYER B: giveOut, terms of a chain by their parts -/
def ctP (q : Nat → Nat) (p : Nat) : Nat → Nat
  | 0 => 0
  | i + 1 => ctP q p i + if q i = p then 1 else 0
theorem ctP_le (q : Nat → Nat) (p : Nat) : ∀ t, ctP q p t ≤ t
  | 0 => Nat.le_refl 0
  | t + 1 => by
    have := ctP_le q p t
    unfold ctP
    split <;> omega
theorem tm_pt {q f : Nat → Nat} (hq : ∀ i, q i < 8) : ∀ t, nS t (fun i => f (q i)) = nS 8 (fun p => ctP q p t * f p)
  | 0 => by simp [nS, ctP]
  | t + 1 => by
    have e1 : nS 8 (fun p => (if q t = p then 1 else 0) * f p) = f (q t) := by
      have := hq t
      rcases (show q t = 0 ∨ q t = 1 ∨ q t = 2 ∨ q t = 3 ∨ q t = 4 ∨ q t = 5 ∨ q t = 6 ∨ q t = 7 by omega) with e | e | e | e | e | e | e | e <;> rw [e] <;> simp [nS]
    have e2 : (fun p => ctP q p (t + 1) * f p) = fun p => ctP q p t * f p + (if q t = p then 1 else 0) * f p := by
      funext p
      rw [ctP, Nat.add_mul]
    rw [e2, nS_add, e1, ← tm_pt hq t]
    rfl
theorem tim_ct {μ : ZM} {c n p : Nat} {q : Nat → Nat} (hc : CX1 μ c n q) (hp : p < 8) : timX μ c (nI p) = nI (ctP q p n) := by
  obtain ⟨h1, h2, h3, h4, h5⟩ := hc
  unfold timX
  rw [h4, nI_clamp (by omega)]
  have : ∀ t, t ≤ n → sumS t (fun i => if μ.1 (32 + c) i = nI p then 1 else 0) = nI (ctP q p t) := by
    intro t
    induction t with
    | zero => intro _; rfl
    | succ t ih =>
      intro ht
      rw [sumS_s, ih (by omega), h5 t (by omega), ctP]
      have hq := h3 t
      by_cases e : q t = p
      · rw [e, if_pos rfl, if_pos rfl, ← nI_ad]
        rfl
      · rw [if_neg (fun z => e ((nI_eq (a := q t) (b := p) (by omega) (by omega)).mp z)), if_neg e, Nat.add_zero, Int32.add_zero]
  exact this n (Nat.le_refl n)
theorem nS_split {n : Nat} (h : Nat → Nat) : ∀ k, nS (n + k) h = nS (n + k) (fun p => if n ≤ p then h p else 0) + nS n h
  | 0 => by
    have e : nS n (fun p => if n ≤ p then h p else 0) = nS n (fun _ => 0 * 0) := nS_c fun i hi => by rw [if_neg (by omega)]
    rw [Nat.add_zero, e, nS_mul, Nat.zero_mul, Nat.zero_add]
  | k + 1 => by
    rw [show n + (k + 1) = n + k + 1 by omega, nS, nS, nS_split h k, if_pos (by omega)]
    omega
/-- the grades while the word x is tried -/
def gxW (n x : Nat) (g : Nat → Nat) (p : Nat) : Nat := if p < n then dg n x p else g p
theorem us_sp {n x te c : Nat} {q g sp : Nat → Nat} {oft : Nat → Nat → Nat} (hn : n ≤ 8) (hq : ∀ i, q i < 8) (ho : ∀ p, p < 8 → oft p c = ctP q p te) : usd (fun c => nS 8 (fun p => if n ≤ p then oft p c * sp (g p) else 0)) oft sp n x c = nS te (fun i => sp (gxW n x g (q i))) := by
  rw [tm_pt (f := fun p => sp (gxW n x g p)) hq te]
  have e := nS_split (n := n) (fun p => ctP q p te * sp (gxW n x g p)) (8 - n)
  rw [show n + (8 - n) = 8 by omega] at e
  rw [e]
  show nS 8 (fun p => if n ≤ p then oft p c * sp (g p) else 0) + nS n (fun p => oft p c * sp (dg n x p)) = _
  congr 1
  · refine nS_c fun p hp => ?_
    by_cases h : n ≤ p
    · rw [if_pos h, if_pos h, ho p hp, gxW, if_neg (by omega)]
    · rw [if_neg h, if_neg h]
  · refine nS_c fun p hp => ?_
    rw [ho p (by omega), gxW, if_pos hp]
