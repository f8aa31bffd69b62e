/-! LAYER B: pairs, counting and matchings (pure) -/
def cnB (n : Nat) (P : Nat → Bool) : Nat := nS n (fun x => if P x = true then 1 else 0)
theorem nS_pw {f g : Nat → Nat} : ∀ {n : Nat}, (∀ i, i < n → f i ≤ g i) → nS n f ≤ nS n g
  | 0, _ => Nat.le_refl 0
  | n + 1, h => by
    rw [nS, nS]
    have := nS_pw (n := n) fun i hi => h i (by omega)
    have := h n (by omega)
    omega
theorem cn_le1 {n : Nat} {g : Nat → Bool} (h : ∀ a c, a < n → c < n → g a = true → g c = true → a = c) : cnB n g ≤ 1 := by
  unfold cnB
  induction n with
  | zero => exact Nat.zero_le 1
  | succ n ih =>
    rw [nS]
    by_cases e : g n = true
    · rw [if_pos e, nS_zero fun i hi => if_neg fun z => by
        have := h i n (by omega) (by omega) z e
        omega]
      exact Nat.le_refl 1
    · rw [if_neg e]
      exact ih fun a c ha hc => h a c (by omega) (by omega)
theorem cn_c {n : Nat} {P Q : Nat → Bool} (h : ∀ x, x < n → P x = Q x) : cnB n P = cnB n Q := nS_c fun x hx => by rw [h x hx]
/-- a count that goes one by one into another -/
theorem cn_inj {n m : Nat} {P Q : Nat → Bool} {f : Nat → Nat} (h1 : ∀ a, a < n → P a = true → f a < m ∧ Q (f a) = true) (h2 : ∀ a c, a < n → c < n → P a = true → P c = true → f a = f c → a = c) : cnB n P ≤ cnB m Q := by
  have e1 : cnB n P = nS n (fun a => nS m (fun b => if (P a && decide (f a = b)) = true then 1 else 0)) := nS_c fun a ha => by
    by_cases e : P a = true
    · rw [if_pos e, nS_one (k := f a) (h1 a ha e).1 fun j hj => if_neg fun z => by
        rw [Bool.and_eq_true, decide_eq_true_eq] at z
        exact hj z.2.symm]
      rw [if_pos (by rw [e, decide_eq_true rfl]; rfl)]
    · rw [if_neg e, nS_zero fun j hj => if_neg fun z => by
        rw [Bool.and_eq_true] at z
        exact e z.1]
  rw [e1, nS_swap]
  refine nS_pw fun b hb => ?_
  by_cases e : Q b = true
  · rw [if_pos e]
    exact cn_le1 (g := fun a => P a && decide (f a = b)) fun a c ha hc g1 g2 => by
      rw [Bool.and_eq_true, decide_eq_true_eq] at g1 g2
      exact h2 a c ha hc g1.1 g2.1 (g1.2.trans g2.2.symm)
  · rw [nS_zero fun a ha => if_neg fun z => by
      rw [Bool.and_eq_true, decide_eq_true_eq] at z
      have := (h1 a ha z.1).2
      rw [z.2] at this
      exact e this]
    exact Nat.zero_le _
theorem cn_all (n : Nat) : cnB n (fun _ => true) = n := by
  unfold cnB
  rw [nS_c (g := fun _ => 1) fun i _ => if_pos rfl, nS_cst, Nat.mul_one]
theorem inj_le {m n : Nat} {q : Nat → Nat} (h1 : ∀ t, t < m → q t < n) (h2 : ∀ t u, t < m → u < m → q t = q u → t = u) : m ≤ n := by
  have := cn_inj (P := fun _ => true) (Q := fun _ => true) (fun t ht _ => ⟨h1 t ht, rfl⟩) (fun t u ht hu _ _ e => h2 t u ht hu e)
  rwa [cn_all, cn_all] at this
theorem cn_split (n : Nat) (P C : Nat → Bool) : cnB n P = cnB n (fun x => P x && C x) + cnB n (fun x => P x && !C x) := by
  unfold cnB
  rw [← nS_add]
  refine nS_c fun x _ => ?_
  show (if P x = true then 1 else 0) = (if (P x && C x) = true then 1 else 0) + if (P x && !C x) = true then 1 else 0
  cases P x <;> cases C x <;> rfl
theorem cn_mono {n : Nat} {P Q : Nat → Bool} (h : ∀ x, x < n → P x = true → Q x = true) : cnB n P ≤ cnB n Q := cn_inj (f := id) (fun a ha e => ⟨ha, h a ha e⟩) (fun _ _ _ _ _ _ e => e)
/-- one more -/
theorem cn_up {n a : Nat} {P Q : Nat → Bool} (ha : a < n) (h0 : P a = false) (h1 : Q a = true) (h : ∀ x, x < n → x ≠ a → Q x = P x) : cnB n Q = cnB n P + 1 := by
  have e1 := cn_split n Q (fun x => decide (x = a))
  have e2 : cnB n (fun x => Q x && decide (x = a)) = 1 := by
    unfold cnB
    rw [nS_one (k := a) ha fun j hj => if_neg fun z => by
      rw [Bool.and_eq_true, decide_eq_true_eq] at z
      exact hj z.2, if_pos (by show (Q a && decide (a = a)) = true; rw [h1, decide_eq_true rfl]; rfl)]
  have e3 : cnB n (fun x => Q x && !decide (x = a)) = cnB n P := cn_c fun x hx => by
    by_cases e : x = a
    · rw [e, h0, decide_eq_true rfl]
      show (Q a && !true) = false
      simp
    · rw [h x hx e, decide_eq_false e]
      simp
  omega
/-- the graph: A and B apart, edges from A to B -/
def GR (n : Nat) (A B : Nat → Bool) (E : Nat → Nat → Bool) : Prop := n ≤ 24 ∧ (∀ a b, E a b = true → a < n ∧ b < n ∧ A a = true ∧ B b = true) ∧ ∀ x, A x = true → B x = true → False
/-- pairs without what S holds, told from A; 24: none -/
def Mf (n : Nat) (E : Nat → Nat → Bool) (S : Nat → Bool) (f : Nat → Nat) : Prop := (∀ a, a < n → f a = 24 ∨ (S a = false ∧ S (f a) = false ∧ E a (f a) = true)) ∧ ∀ a c, a < n → c < n → f a = f c → f a ≠ 24 → a = c
def szF (n : Nat) (f : Nat → Nat) : Nat := cnB n (fun a => !decide (f a = 24))
def mxM (n : Nat) (E : Nat → Nat → Bool) (S : Nat → Bool) (k : Nat) : Prop := (∃ f, Mf n E S f ∧ szF n f = k) ∧ ∀ f, Mf n E S f → szF n f ≤ k
def adS (S : Nat → Bool) (a : Nat) : Nat → Bool := fun x => S x || decide (x = a)
section KM1
variable {n a b k l : Nat} {A B : Nat → Bool} {E : Nat → Nat → Bool} {S : Nat → Bool} {f : Nat → Nat}
theorem mx_u (h : mxM n E S k) (g : mxM n E S l) : k = l := by
  obtain ⟨⟨f1, a1, a2⟩, a3⟩ := h
  obtain ⟨⟨f2, b1, b2⟩, b3⟩ := g
  have := a3 f2 b1
  have := b3 f1 a1
  omega
theorem adS_t : adS S a a = true := by unfold adS; rw [decide_eq_true rfl, Bool.or_true]
theorem adS_ne {x : Nat} (h : x ≠ a) : adS S a x = S x := by unfold adS; rw [decide_eq_false h, Bool.or_false]
theorem adS_f {x : Nat} (h : adS S a x = false) : S x = false ∧ x ≠ a := by
  unfold adS at h
  rw [Bool.or_eq_false_iff, decide_eq_false_iff_not] at h
  exact h
theorem adS_o {x : Nat} (h : S x = true) : adS S a x = true := by unfold adS; rw [h, Bool.true_or]
theorem sz_up (ha : a < n) (hb : b ≠ 24) (h : f a = 24) : szF n (fun x => if x = a then b else f x) = szF n f + 1 := cn_up ha (by rw [h]; rfl) (by simp [hb]) fun x _ hx => by simp [hx]
theorem sz_dn (ha : a < n) (h : f a ≠ 24) : szF n (fun x => if x = a then 24 else f x) + 1 = szF n f := (cn_up (P := fun x => !decide ((if x = a then 24 else f x) = 24)) (Q := fun x => !decide (f x = 24)) ha (by simp) (by simp [h]) fun x _ hx => by simp [hx]).symm
/-- a pair more -/
theorem mf_add (hG : GR n A B E) (hE : E a b = true) (ha : S a = false) (hb : S b = false) (h : Mf n E (adS (adS S a) b) f) : Mf n E S (fun x => if x = a then b else f x) ∧ szF n (fun x => if x = a then b else f x) = szF n f + 1 := by
  obtain ⟨g1, g2, g3, g4⟩ := hG.2.1 a b hE
  have g0 := hG.1
  have fa : f a = 24 := by
    rcases h.1 a g1 with z | z
    · exact z
    · have := (adS_f (adS_f z.1).1).2
      omega
  have hne : ∀ x, x < n → f x ≠ b := fun x hx e => by
    rcases h.1 x hx with z | z
    · omega
    · exact (adS_f z.2.1).2 e
  refine ⟨⟨fun x hx => ?_, fun x c hx hc e e2 => ?_⟩, sz_up g1 (by omega) fa⟩
  · show (if x = a then b else f x) = 24 ∨ (S x = false ∧ S (if x = a then b else f x) = false ∧ E x (if x = a then b else f x) = true)
    by_cases e : x = a
    · rw [if_pos e, e]
      exact Or.inr ⟨ha, hb, hE⟩
    · rw [if_neg e]
      rcases h.1 x hx with z | z
      · exact Or.inl z
      · exact Or.inr ⟨(adS_f (adS_f z.1).1).1, (adS_f (adS_f z.2.1).1).1, z.2.2⟩
  · have e : (if x = a then b else f x) = (if c = a then b else f c) := e
    have e2 : (if x = a then b else f x) ≠ 24 := e2
    by_cases e3 : x = a
    · by_cases e4 : c = a
      · omega
      · rw [if_pos e3, if_neg e4] at e
        exact absurd e.symm (hne c hc)
    · by_cases e4 : c = a
      · rw [if_neg e3, if_pos e4] at e
        exact absurd e (hne x hx)
      · rw [if_neg e3, if_neg e4] at e
        rw [if_neg e3] at e2
        exact h.2 x c hx hc e e2
/-- a pair less -/
theorem mf_sub (hG : GR n A B E) (ha : a < n) (hfa : f a = b) (hb : b ≠ 24) (h : Mf n E S f) : Mf n E (adS (adS S a) b) (fun x => if x = a then 24 else f x) ∧ szF n (fun x => if x = a then 24 else f x) + 1 = szF n f := by
  have hE : E a b = true := by
    rcases h.1 a ha with z | z
    · omega
    · rw [hfa] at z
      exact z.2.2
  obtain ⟨g1, g2, g3, g4⟩ := hG.2.1 a b hE
  refine ⟨⟨fun x hx => ?_, fun x c hx hc e e2 => ?_⟩, sz_dn ha (by omega)⟩
  · show (if x = a then 24 else f x) = 24 ∨ _ ∧ adS (adS S a) b (if x = a then 24 else f x) = false ∧ E x (if x = a then 24 else f x) = true
    by_cases e : x = a
    · rw [if_pos e]
      exact Or.inl rfl
    · rw [if_neg e]
      rcases h.1 x hx with z | z
      · exact Or.inl z
      · obtain ⟨_, _, p3, p4⟩ := hG.2.1 x (f x) z.2.2
        have n1 : x ≠ b := fun z => hG.2.2 x p3 (by rw [z]; exact g4)
        have n2 : f x ≠ a := fun z => hG.2.2 (f x) (by rw [z]; exact g3) p4
        have n3 : f x ≠ b := fun z => e (h.2 x a hx ha (by rw [z, hfa]) (by omega))
        exact Or.inr ⟨by rw [adS_ne n1, adS_ne e]; exact z.1, by rw [adS_ne n3, adS_ne n2]; exact z.2.1, z.2.2⟩
  · have e : (if x = a then 24 else f x) = (if c = a then 24 else f c) := e
    have e2 : (if x = a then 24 else f x) ≠ 24 := e2
    by_cases e3 : x = a
    · rw [if_pos e3] at e2
      exact absurd rfl e2
    · rw [if_neg e3] at e e2
      by_cases e4 : c = a
      · rw [if_pos e4] at e
        exact absurd e e2
      · rw [if_neg e4] at e
        exact h.2 x c hx hc e e2
theorem mf_mono (h : Mf n E (adS S a) f) : Mf n E S f := ⟨fun x hx => (h.1 x hx).imp id fun z => ⟨(adS_f z.1).1, (adS_f z.2.1).1, z.2.2⟩, h.2⟩
theorem mf_no (hG : GR n A B E) (ha : A a = true) (hfa : f a = 24) (h : Mf n E S f) : Mf n E (adS S a) f := ⟨fun x hx => by
  rcases h.1 x hx with z | z
  · exact Or.inl z
  · obtain ⟨p1, p2, p3, p4⟩ := hG.2.1 x (f x) z.2.2
    have g0 := hG.1
    have n1 : x ≠ a := fun e => by
      rw [e] at p2
      omega
    have n2 : f x ≠ a := fun e => hG.2.2 (f x) (by rw [e]; exact ha) p4
    exact Or.inr ⟨by rw [adS_ne n1]; exact z.1, by rw [adS_ne n2]; exact z.2.1, z.2.2⟩, h.2⟩
theorem mx_le (hG : GR n A B E) (hE : E a b = true) (ha : S a = false) (hb : S b = false) (h : mxM n E S k) (g : mxM n E (adS (adS S a) b) l) : l + 1 ≤ k := by
  obtain ⟨⟨f, g1, g2⟩, _⟩ := g
  obtain ⟨h1, h2⟩ := mf_add hG hE ha hb g1
  have := h.2 _ h1
  omega
/-- matched once chosen: as many less one -/
theorem mx_yes (hG : GR n A B E) (hE : E a b = true) (ha : S a = false) (hb : S b = false) (h : mxM n E S k) (hf : Mf n E (adS (adS S a) b) f) (hs : k ≤ szF n f + 1) : mxM n E (adS (adS S a) b) (szF n f) ∧ szF n f + 1 = k := by
  obtain ⟨h1, h2⟩ := mf_add hG hE ha hb hf
  have e := h.2 _ h1
  refine ⟨⟨⟨f, hf, rfl⟩, fun g hg => ?_⟩, by omega⟩
  obtain ⟨h3, h4⟩ := mf_add hG hE ha hb hg
  have := h.2 _ h3
  omega
/-- none fits: the pairs are as many without it -/
theorem mx_none (hG : GR n A B E) (ha : A a = true) (han : a < n) (h : mxM n E S k) (hno : ∀ b, E a b = true → S b = false → ∃ l, mxM n E (adS (adS S a) b) l ∧ l + 1 ≠ k) : mxM n E (adS S a) k := by
  obtain ⟨⟨f, h1, h2⟩, h3⟩ := h
  refine ⟨⟨f, mf_no hG ha ?_ h1, h2⟩, fun g hg => h3 g (mf_mono hg)⟩
  refine Classical.byContradiction fun hfa => ?_
  rcases h1.1 a han with z | z
  · exact hfa z
  · obtain ⟨l, hl, hne⟩ := hno (f a) z.2.2 z.2.1
    obtain ⟨g1, g2⟩ := mf_sub hG han rfl hfa h1
    have := hl.2 _ g1
    have := mx_le hG z.2.2 z.1 z.2.1 ⟨⟨f, h1, h2⟩, h3⟩ hl
    omega
/-- a cover as large: there are no more -/
theorem mx_cert {CA CB : Nat → Bool} {g : Nat → Nat} (hG : GR n A B E) (hf : Mf n E S f) (hc : ∀ a b, E a b = true → S a = false → S b = false → CA a = true ∨ CB b = true) (h1 : ∀ a, a < n → CA a = true → f a ≠ 24) (h2 : ∀ b, b < n → CB b = true → g b < n ∧ f (g b) = b ∧ CA (g b) = false) : mxM n E S (szF n f) := by
  have g0 := hG.1
  refine ⟨⟨f, hf, rfl⟩, fun f' hf' => ?_⟩
  have u1 : szF n f' ≤ cnB n CA + cnB n CB := by
    unfold szF
    rw [cn_split n _ CA]
    refine Nat.add_le_add (cn_mono fun x _ z => (Bool.and_eq_true _ _ ▸ z).2) (cn_inj (f := f') (fun a ha z => ?_) (fun a c ha hc' z1 z2 e => ?_))
    · rw [Bool.and_eq_true] at z
      have z1 : f' a ≠ 24 := by simpa using z.1
      have z2 : CA a = false := by simpa using z.2
      rcases hf'.1 a ha with y | y
      · exact absurd y z1
      · obtain ⟨_, p2, _, _⟩ := hG.2.1 a (f' a) y.2.2
        refine ⟨p2, ?_⟩
        rcases hc a (f' a) y.2.2 y.1 y.2.1 with q | q
        · rw [z2] at q
          cases q
        · exact q
    · rw [Bool.and_eq_true] at z1
      exact hf'.2 a c ha hc' e (by simpa using z1.1)
  have u2 : cnB n CA + cnB n CB ≤ szF n f := by
    unfold szF
    rw [cn_split n (fun a => !decide (f a = 24)) CA]
    refine Nat.add_le_add (cn_mono fun x hx z => ?_) (cn_inj (f := g) (fun b hb z => ?_) (fun b c hb hc' z1 z2 e => ?_))
    · rw [z, Bool.and_true]
      have := h1 x hx z
      simpa using this
    · obtain ⟨q1, q2, q3⟩ := h2 b hb z
      refine ⟨q1, ?_⟩
      rw [q3, q2]
      simp
      omega
    · rw [← (h2 b hb z1).2.1, ← (h2 c hc' z2).2.1, e]
  omega
end KM1
/-! what is to come out: THING by THING the least partner that leaves as many -/
noncomputable def nuS (n : Nat) (E : Nat → Nat → Bool) (S : Nat → Bool) : Nat := @dite Nat (∃ k, mxM n E S k) (Classical.propDecidable _) (fun h => h.choose) (fun _ => 0)
theorem nu_e {n k : Nat} {E : Nat → Nat → Bool} {S : Nat → Bool} (h : mxM n E S k) : nuS n E S = k := by
  unfold nuS
  rw [dif_pos ⟨k, h⟩]
  exact mx_u (Exists.choose_spec ⟨k, h⟩) h
def fstB (P : Nat → Bool) : Nat → Nat
  | 0 => 24
  | k + 1 => if fstB P k = 24 then (if P k = true then k else 24) else fstB P k
theorem fst_no {P : Nat → Bool} : ∀ {k : Nat}, (∀ j, j < k → P j = false) → fstB P k = 24
  | 0, _ => rfl
  | k + 1, h => by
    rw [fstB, fst_no fun j hj => h j (by omega), if_pos rfl, if_neg]
    rw [h k (by omega)]
    decide
theorem fst_at {P : Nat → Bool} {j : Nat} (hj : j < 24) (hP : P j = true) (h : ∀ i, i < j → P i = false) : ∀ {k : Nat}, j < k → fstB P k = j
  | 0, hk => by omega
  | k + 1, hk => by
    by_cases e : j = k
    · rw [fstB, fst_no fun i hi => h i (by omega), if_pos rfl, ← e, if_pos hP]
    · rw [fstB, fst_at hj hP h (show j < k by omega), if_neg (by omega)]
noncomputable def gdB (n : Nat) (E : Nat → Nat → Bool) (S : Nat → Bool) (a b : Nat) : Bool := E a b && (!S b && decide (nuS n E (adS (adS S a) b) + 1 = nuS n E S))
noncomputable def chB (n : Nat) (E : Nat → Nat → Bool) (S : Nat → Bool) (a : Nat) : Nat := fstB (gdB n E S a) n
noncomputable def nxS (n : Nat) (A : Nat → Bool) (E : Nat → Nat → Bool) (S : Nat → Bool) (a : Nat) : Nat → Bool := if A a = true then (if chB n E S a = 24 then adS S a else adS (adS S a) (chB n E S a)) else S
noncomputable def stS (n : Nat) (A : Nat → Bool) (E : Nat → Nat → Bool) : Nat → Nat → Bool
  | 0 => fun _ => false
  | i + 1 => nxS n A E (stS n A E i) i
section KM2
variable {n a i x : Nat} {A B : Nat → Bool} {E : Nat → Nat → Bool} {S : Nat → Bool}
theorem fst_in {P : Nat → Bool} : ∀ {k : Nat}, fstB P k ≠ 24 → fstB P k < k ∧ P (fstB P k) = true
  | 0, h => absurd rfl h
  | k + 1, h => by
    by_cases e : fstB P k = 24
    · rw [fstB, if_pos e] at h ⊢
      by_cases e2 : P k = true
      · rw [if_pos e2]
        exact ⟨by omega, e2⟩
      · rw [if_neg e2] at h
        exact absurd rfl h
    · rw [fstB, if_neg e]
      have := fst_in e
      exact ⟨by omega, this.2⟩
theorem ch_in (h : chB n E S a ≠ 24) : chB n E S a < n ∧ E a (chB n E S a) = true ∧ S (chB n E S a) = false := by
  have h1 := fst_in h
  have h2 : gdB n E S a (chB n E S a) = true := h1.2
  unfold gdB at h2
  rw [Bool.and_eq_true, Bool.and_eq_true] at h2
  exact ⟨h1.1, h2.1, by simpa using h2.2.1⟩
/-- of A what comes later is not settled yet -/
theorem st_A (hG : GR n A B E) (hx : A x = true) : ∀ {i : Nat}, i ≤ x → stS n A E i x = false
  | 0, _ => rfl
  | i + 1, h => by
    have ih := st_A hG hx (i := i) (by omega)
    show nxS n A E (stS n A E i) i x = false
    unfold nxS
    split
    · split
      · rw [adS_ne (by omega)]
        exact ih
      · rename_i h1 h2
        obtain ⟨c1, c2, c3⟩ := ch_in h2
        have := hG.2.1 _ _ c2
        rw [adS_ne (fun z => hG.2.2 x hx (by rw [z]; exact this.2.2.2)), adS_ne (by omega)]
        exact ih
    · exact ih
theorem st_mono (hx : stS n A E i x = true) : stS n A E (i + 1) x = true := by
  show nxS n A E (stS n A E i) i x = true
  unfold nxS
  split
  · split
    · exact adS_o hx
    · exact adS_o (adS_o hx)
  · exact hx
end KM2
