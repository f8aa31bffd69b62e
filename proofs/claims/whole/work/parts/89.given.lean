/-! LAYER B: given, sums over orders as the shops make them -/
theorem nS_one {n : Nat} {f : Nat → Nat} {k : Nat} (hk : k < n) (h : ∀ j, j ≠ k → f j = 0) : nS n f = f k := by
  have h0 : ∀ m, m ≤ k → nS m f = 0 := by
    intro m
    induction m with
    | zero => intro _; rfl
    | succ m ih => intro hm; rw [nS, ih (by omega), h m (by omega)]
  have h1 : ∀ m, k < m → nS m f = f k := by
    intro m
    induction m with
    | zero => intro hm; omega
    | succ m ih =>
      intro hm
      rw [nS]
      by_cases e : m = k
      · rw [e, h0 k (Nat.le_refl k), Nat.zero_add]
      · rw [ih (by omega), h m e, Nat.add_zero]
  exact h1 n hk
theorem nS_zero {n : Nat} {f : Nat → Nat} (h : ∀ j, j < n → f j = 0) : nS n f = 0 := by
  induction n with
  | zero => rfl
  | succ n ih => rw [nS, ih fun j hj => h j (by omega), h n (by omega)]
theorem nS_swap (A : Nat → Nat → Nat) (m : Nat) : ∀ n, nS n (fun i => nS m (fun j => A i j)) = nS m (fun j => nS n (fun i => A i j))
  | 0 => (nS_zero fun j _ => rfl).symm
  | n + 1 => by
    rw [nS, nS_swap A m n, ← nS_add]
    exact nS_c fun j _ => by rw [nS]
theorem nS_cst (c : Nat) : ∀ n, nS n (fun _ => c) = n * c
  | 0 => by rw [nS, Nat.zero_mul]
  | n + 1 => by rw [nS, nS_cst c n, Nat.succ_mul]
/-- a row of n unlike numbers below n -/
def Prm (n : Nat) (q : Nat → Nat) : Prop := (∀ i, i < n → q i < n) ∧ ∀ i j, i < n → j < n → q i = q j → i = j
def cnQ (n : Nat) (q : Nat → Nat) (j : Nat) : Nat := nS n (fun i => if q i = j then 1 else 0)
theorem cn_sum {n : Nat} {q : Nat → Nat} (h : Prm n q) (f : Nat → Nat) : nS n (fun i => f (q i)) = nS n (fun j => f j * cnQ n q j) := by
  have e1 : nS n (fun i => f (q i)) = nS n (fun i => nS n (fun j => f j * (if q i = j then 1 else 0))) := nS_c fun i hi => by
    rw [nS_one (k := q i) (h.1 i hi) fun j hj => by rw [if_neg (fun z => hj z.symm), Nat.mul_zero], if_pos rfl, Nat.mul_one]
  rw [e1, nS_swap]
  exact nS_c fun j _ => nS_mul (f j) _ n
theorem cn_le {n : Nat} {q : Nat → Nat} (h : Prm n q) (j : Nat) : cnQ n q j ≤ 1 := by
  by_cases e : ∃ i, i < n ∧ q i = j
  · obtain ⟨i, hi, rfl⟩ := e
    have : cnQ n q (q i) = nS n (fun i' => if i' = i then 1 else 0) := nS_c fun i' hi' => by
      by_cases e : q i' = q i
      · rw [if_pos e, if_pos (h.2 i' i hi' hi e)]
      · rw [if_neg e, if_neg (fun z => e (by rw [z]))]
    rw [this, nS_one (k := i) hi fun j hj => if_neg hj, if_pos rfl]
    exact Nat.le_refl 1
  · have : cnQ n q j = 0 := nS_zero fun i hi => if_neg fun z => e ⟨i, hi, z⟩
    omega
theorem nS_full {f : Nat → Nat} : ∀ {n : Nat}, (∀ j, f j ≤ 1) → nS n f = n → ∀ j, j < n → f j = 1
  | 0, _, _, j, hj => by omega
  | n + 1, h1, h2, j, hj => by
    rw [nS] at h2
    have a := h1 n
    have b := nS_bd (f := f) (B := 1) (n := n) fun i _ => h1 i
    by_cases e : j = n
    · rw [e]; omega
    · exact nS_full (n := n) h1 (by omega) j (by omega)
theorem cn_one {n : Nat} {q : Nat → Nat} (h : Prm n q) {j : Nat} (hj : j < n) : cnQ n q j = 1 := by
  refine nS_full (cn_le h) ?_ j hj
  have := cn_sum h (fun _ => 1)
  rw [nS_cst] at this
  have e : nS n (fun j => 1 * cnQ n q j) = nS n (cnQ n q) := nS_c fun j _ => Nat.one_mul _
  rw [e] at this
  omega
theorem prm_sum {n : Nat} {q : Nat → Nat} (h : Prm n q) (f : Nat → Nat) : nS n (fun i => f (q i)) = nS n f := by
  rw [cn_sum h]
  exact nS_c fun j hj => by rw [cn_one h hj, Nat.mul_one]
theorem prm_at {n : Nat} {q : Nat → Nat} (h : Prm n q) {o : Nat} (ho : o < n) : ∃ i, i < n ∧ q i = o := by
  refine Classical.byContradiction fun hno => ?_
  have h1 := cn_one h ho
  have : cnQ n q o = 0 := nS_zero fun i hi => if_neg fun z => hno ⟨i, hi, z⟩
  omega
/-- order j comes ahead of o, or is o -/
def ahd (dy : Nat → Nat) (j o : Nat) : Bool := decide (dy j < dy o ∨ dy j = dy o ∧ j ≤ o)
/-- the row of turns: by day, then by number -/
def Trn (n : Nat) (q dy : Nat → Nat) : Prop := (∀ i, i < n → q i < n) ∧ ∀ i j, i < j → j < n → dy (q i) < dy (q j) ∨ dy (q i) = dy (q j) ∧ q i < q j
theorem trn_prm {n : Nat} {q dy : Nat → Nat} (h : Trn n q dy) : Prm n q := ⟨h.1, fun i j hi hj e => by
  rcases Nat.lt_trichotomy i j with a | a | a
  · have := h.2 i j a hj
    rw [e] at this
    omega
  · exact a
  · have := h.2 j i a hi
    rw [e] at this
    omega⟩
theorem trn_ahd {n : Nat} {q dy : Nat → Nat} (h : Trn n q dy) {i j : Nat} (hi : i < n) (hj : j < n) : ahd dy (q j) (q i) = decide (j ≤ i) := by
  unfold ahd
  refine decide_eq_decide.mpr ?_
  rcases Nat.lt_trichotomy i j with a | a | a
  · have := h.2 i j a hj
    omega
  · rw [a]
    omega
  · have := h.2 j i a hi
    omega
/-- what comes until the turn i, as a sum over orders -/
theorem trn_sum {n : Nat} {q dy : Nat → Nat} (h : Trn n q dy) (f : Nat → Nat) {i : Nat} (hi : i < n) : nS (i + 1) (fun i' => f (q i')) = nS n (fun j => if ahd dy j (q i) = true then f j else 0) := by
  rw [← prm_sum (trn_prm h) (fun j => if ahd dy j (q i) = true then f j else 0)]
  have e : nS n (fun i' => if ahd dy (q i') (q i) = true then f (q i') else 0) = nS n (fun i' => if i' ≤ i then f (q i') else 0) := nS_c fun i' hi' => by
    rw [trn_ahd h hi hi']
    simp only [decide_eq_true_eq]
  rw [e]
  have : ∀ k, nS (i + 1 + k) (fun i' => if i' ≤ i then f (q i') else 0) = nS (i + 1) (fun i' => f (q i')) := by
    intro k
    induction k with
    | zero => exact nS_c fun i' hi' => by rw [if_pos (by omega)]
    | succ k ih => rw [show i + 1 + (k + 1) = i + 1 + k + 1 by omega, nS, ih, if_neg (by omega), Nat.add_zero]
  have := this (n - (i + 1))
  rw [show i + 1 + (n - (i + 1)) = n by omega] at this
  exact this.symm
/-! words of shops -/
/-- hours of the shop of o until o is done, of the first k orders as the word a gives them -/
def hU (dy : Nat → Nat) (wk : Nat → Nat → Nat) (pa : Nat → Nat) (k a o : Nat) : Nat := nS k (fun j => if dg k a j = dg k a o ∧ ahd dy j o = true then wk (dg k a o) (pa j) else 0)
def okT (b : Int32) (dy hr : Nat → Nat) (cs wk : Nat → Nat → Nat) (pa : Nat → Nat) (k a o : Nat) : Prop := ¬ nI (dg k a o) = b ∧ ¬ cs (dg k a o) (pa o) = 0 ∧ hU dy wk pa k a o ≤ dy o * hr (dg k a o)
def okO (b : Int32) (dy hr : Nat → Nat) (cs wk : Nat → Nat → Nat) (pa : Nat → Nat) (k a : Nat) : Bool := allB k (fun o => decide (¬ nI (dg k a o) = b) && decide (¬ cs (dg k a o) (pa o) = 0) && decide (hU dy wk pa k a o ≤ dy o * hr (dg k a o)))
section KJ1
variable {b : Int32} {dy hr pa : Nat → Nat} {cs wk : Nat → Nat → Nat} {n k a x g : Nat}
theorem okO_iff : okO b dy hr cs wk pa k a = true ↔ ∀ o, o < k → okT b dy hr cs wk pa k a o := by
  unfold okO allB
  rw [List.all_eq_true]
  simp only [List.mem_range, Bool.and_eq_true, decide_eq_true_eq]
  exact ⟨fun h o ho => ⟨(h o ho).1.1, (h o ho).1.2, (h o ho).2⟩, fun h o ho => ⟨⟨(h o ho).1, (h o ho).2.1⟩, (h o ho).2.2⟩⟩
theorem hU_pre (hk : k ≤ n) (hx : x / 4 ^ (n - k) = a) {o : Nat} (ho : o < k) : hU dy wk pa k a o ≤ hU dy wk pa n x o := by
  unfold hU
  refine Nat.le_trans (Nat.le_of_eq ?_) (nS_mono hk)
  refine nS_c fun j hj => ?_
  rw [dg_pre hk ho hx, dg_pre hk hj hx]
theorem okO_pre (hk : k ≤ n) (hx : x / 4 ^ (n - k) = a) (h : okO b dy hr cs wk pa n x = true) : okO b dy hr cs wk pa k a = true := by
  rw [okO_iff] at h ⊢
  intro o ho
  obtain ⟨h1, h2, h3⟩ := h o (by omega)
  have hu := hU_pre (dy := dy) (wk := wk) (pa := pa) hk hx ho
  rw [dg_pre hk ho hx] at h1 h2 h3
  exact ⟨h1, h2, Nat.le_trans hu h3⟩
/-- one order more, to the shop g -/
theorem okO_s (hg : g < 4) (ha : okO b dy hr cs wk pa k a = true) : okO b dy hr cs wk pa (k + 1) (4 * a + g) = true ↔ ¬ nI g = b ∧ ¬ cs g (pa k) = 0 ∧ ∀ o, o < k + 1 → dg (k + 1) (4 * a + g) o = g → hU dy wk pa (k + 1) (4 * a + g) o ≤ dy o * hr g := by
  have ek : dg (k + 1) (4 * a + g) k = g := by rw [dg_s hg (Nat.le_refl k), if_pos rfl]
  constructor
  · intro h
    rw [okO_iff] at h
    obtain ⟨h1, h2, _⟩ := h k (by omega)
    rw [ek] at h1 h2
    refine ⟨h1, h2, fun o ho e => ?_⟩
    have h3 := (h o ho).2.2
    rw [e] at h3
    exact h3
  · rintro ⟨h1, h2, h3⟩
    rw [okO_iff] at ha ⊢
    intro o ho
    by_cases e : dg (k + 1) (4 * a + g) o = g
    · refine ⟨by rw [e]; exact h1, ?_, by rw [e]; exact h3 o ho e⟩
      rw [e]
      by_cases eo : o = k
      · rw [eo]; exact h2
      · have h4 := (ha o (by omega)).2.1
        rw [dg_s hg (by omega), if_neg eo] at e
        rw [e] at h4
        exact h4
    · have eo : o ≠ k := fun z => e (by rw [z]; exact ek)
      have e2 : dg (k + 1) (4 * a + g) o = dg k a o := by rw [dg_s hg (by omega), if_neg eo]
      obtain ⟨a1, a2, a3⟩ := ha o (by omega)
      have eu : hU dy wk pa (k + 1) (4 * a + g) o = hU dy wk pa k a o := by
        unfold hU
        rw [nS, ek, if_neg (fun z => e z.1.symm), Nat.add_zero]
        refine nS_c fun j hj => ?_
        have ej : dg (k + 1) (4 * a + g) j = dg k a j := by rw [dg_s hg (show j ≤ k by omega), if_neg (by omega)]
        rw [e2, ej]
      refine ⟨by rw [e2]; exact a1, by rw [e2]; exact a2, ?_⟩
      rw [eu, e2]
      exact a3
end KJ1
