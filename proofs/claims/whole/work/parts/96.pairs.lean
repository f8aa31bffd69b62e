/-! LAYER B: pairs, the search for one pair more (pure) -/
def edg (E : Nat → Nat → Bool) (x y : Nat) : Prop := E x y = true ∨ E y x = true
/-- who is paired with whom; 24: nobody -/
def Pm (n : Nat) (E : Nat → Nat → Bool) (pt : Nat → Nat) : Prop := ∀ x, x < n → pt x = 24 ∨ (pt x < n ∧ pt (pt x) = x ∧ edg E x (pt x))
def Cs (n : Nat) (S : Nat → Bool) (pt : Nat → Nat) : Prop := ∀ x, x < n → S x = false → pt x ≠ 24 → S (pt x) = false
def fR (A S : Nat → Bool) (pt : Nat → Nat) : Nat → Nat := fun a => if (A a && !S a) = true then pt a else 24
/-- what a search that found nothing leaves: nothing leads out of it -/
def Cl (n : Nat) (B : Nat → Bool) (E : Nat → Nat → Bool) (S : Nat → Bool) (pt : Nat → Nat) (T : Nat → Bool) : Prop := (∀ a b, E a b = true → S a = false → S b = false → T a = true → T b = true) ∧ ∀ b, b < n → B b = true → T b = true → S b = false ∧ pt b ≠ 24 ∧ T (pt b) = true
section KM3
variable {n a b c m s : Nat} {A B : Nat → Bool} {E : Nat → Nat → Bool} {S T V : Nat → Bool} {pt pt' wq fr : Nat → Nat}
theorem edg_A (hG : GR n A B E) (h : edg E a b) (ha : A a = true) : E a b = true := h.elim id fun z => absurd (hG.2.1 b a z).2.2.2 (fun q => hG.2.2 a ha q)
theorem edg_B (hG : GR n A B E) (h : edg E b a) (hb : B b = true) : E a b = true := h.elim (fun z => absurd (hG.2.1 b a z).2.2.1 (fun q => hG.2.2 b q hb)) id
theorem fR_y (ha : A a = true) (hs : S a = false) : fR A S pt a = pt a := by unfold fR; rw [ha, hs]; rfl
theorem fR_n (h : A a = false ∨ S a = true) : fR A S pt a = 24 := by
  unfold fR
  refine if_neg fun z => ?_
  rw [Bool.and_eq_true] at z
  rcases h with h | h
  · rw [h] at z
    cases z.1
  · rw [h] at z
    cases z.2
theorem fR_e (h : fR A S pt a ≠ 24) : A a = true ∧ S a = false := by
  refine ⟨?_, ?_⟩
  · cases e : A a with
    | true => rfl
    | false => exact absurd (fR_n (Or.inl e)) h
  · cases e : S a with
    | false => rfl
    | true => exact absurd (fR_n (Or.inr e)) h
theorem mf_fR (hG : GR n A B E) (hp : Pm n E pt) (hc : Cs n S pt) : Mf n E S (fR A S pt) := by
  refine ⟨fun x hx => ?_, fun x y hx hy e e2 => ?_⟩
  · by_cases e : fR A S pt x = 24
    · exact Or.inl e
    · obtain ⟨h1, h2⟩ := fR_e e
      rw [fR_y h1 h2] at e ⊢
      rcases hp x hx with z | z
      · exact absurd z e
      · exact Or.inr ⟨h2, hc x hx h2 e, edg_A hG z.2.2 h1⟩
  · obtain ⟨h1, h2⟩ := fR_e e2
    obtain ⟨h3, h4⟩ := fR_e (by rw [← e]; exact e2)
    rw [fR_y h1 h2] at e e2
    rw [fR_y h3 h4] at e
    rcases hp x hx with z | z
    · exact absurd z e2
    · rcases hp y hy with w | w
      · omega
      · rw [← z.2.1, e]
        exact w.2.1
theorem mx_T (hG : GR n A B E) (hp : Pm n E pt) (hc : Cs n S pt) (hT : Cl n B E S pt T) (h3 : ∀ a, a < n → A a = true → S a = false → pt a = 24 → T a = true) : mxM n E S (szF n (fR A S pt)) := by
  refine mx_cert (CA := fun a => (A a && !S a) && !T a) (CB := fun b => B b && T b) (g := pt) hG (mf_fR hG hp hc) (fun a b hE ha hb => ?_) (fun a ha hC => ?_) (fun b hb hC => ?_)
  · obtain ⟨_, _, p3, p4⟩ := hG.2.1 a b hE
    cases e : T a with
    | true =>
      right
      show (B b && T b) = true
      rw [p4, hT.1 a b hE ha hb e]
      rfl
    | false =>
      left
      show ((A a && !S a) && !false) = true
      rw [p3, ha]
      rfl
  · have hC : ((A a && !S a) && !T a) = true := hC
    rw [Bool.and_eq_true, Bool.and_eq_true] at hC
    have h1 : S a = false := by simpa using hC.1.2
    have h2 : T a = false := by simpa using hC.2
    rw [fR_y hC.1.1 h1]
    intro z
    have := h3 a ha hC.1.1 h1 z
    rw [h2] at this
    cases this
  · have hC : (B b && T b) = true := hC
    rw [Bool.and_eq_true] at hC
    obtain ⟨q1, q2, q3⟩ := hT.2 b hb hC.1 hC.2
    rcases hp b hb with z | z
    · exact absurd z q2
    · have hE := edg_B hG z.2.2 hC.1
      have hA := (hG.2.1 _ _ hE).2.2.1
      have hS := hc b hb q1 q2
      refine ⟨z.1, ?_, ?_⟩
      · rw [fR_y hA hS]
        exact z.2.1
      · show ((A (pt b) && !S (pt b)) && !T (pt b)) = false
        rw [q3]
        simp
/-- the search: its line wq of m, c of it gone through, V what was reached, fr from where -/
def Bf (n : Nat) (A B : Nat → Bool) (E : Nat → Nat → Bool) (S : Nat → Bool) (pt wq : Nat → Nat) (m c : Nat) (V : Nat → Bool) (fr : Nat → Nat) : Prop :=
  (∀ t, t < m → wq t < n ∧ A (wq t) = true ∧ S (wq t) = false ∧ (pt (wq t) = 24 ∨ V (pt (wq t)) = true)) ∧
  (∀ t u, t < m → u < m → wq t = wq u → t = u) ∧
  (∀ b, V b = true → b < n ∧ B b = true ∧ S b = false ∧ pt b ≠ 24 ∧ ∃ s t, s < t ∧ t < m ∧ wq t = pt b ∧ fr b = wq s ∧ E (wq s) b = true) ∧
  ∀ t b, t < c → E (wq t) b = true → S b = false → V b = true
theorem bf_m (hB : Bf n A B E S pt wq m c V fr) : m ≤ n := inj_le (fun t ht => (hB.1 t ht).1) hB.2.1
theorem bf_new (hG : GR n A B E) (hp : Pm n E pt) (hc : Cs n S pt) (hB : Bf n A B E S pt wq m c V fr) (hcm : c < m) (hE : E (wq c) b = true) (hS : S b = false) (hV : V b = false) (hpt : pt b ≠ 24) : Bf n A B E S pt (fun t => if t = m then pt b else wq t) (m + 1) c (fun x => V x || decide (x = b)) (fun x => if x = b then wq c else fr x) ∧ m < n := by
  obtain ⟨b1, b2, b3, b4⟩ := id hB
  obtain ⟨p1, p2, p3, p4⟩ := hG.2.1 _ _ hE
  obtain ⟨q1, q2, q3⟩ := (hp b p2).resolve_left hpt
  have hEb := edg_B hG q3 p4
  obtain ⟨r1, _, r3, _⟩ := hG.2.1 _ _ hEb
  have hnew : ∀ t, t < m → wq t ≠ pt b := fun t ht z => by
    have h := (b1 t ht).2.2.2
    rw [z, q2] at h
    rcases h with h | h
    · have := hG.1
      omega
    · rw [hV] at h
      cases h
  have hB' : Bf n A B E S pt (fun t => if t = m then pt b else wq t) (m + 1) c (fun x => V x || decide (x = b)) (fun x => if x = b then wq c else fr x) := by
    refine ⟨fun t ht => ?_, fun t u ht hu e => ?_, fun x hx => ?_, fun t x ht hE' hS' => ?_⟩
    · show (if t = m then pt b else wq t) < n ∧ A (if t = m then pt b else wq t) = true ∧ S (if t = m then pt b else wq t) = false ∧ (pt (if t = m then pt b else wq t) = 24 ∨ (V (pt (if t = m then pt b else wq t)) || decide (pt (if t = m then pt b else wq t) = b)) = true)
      by_cases e : t = m
      · rw [if_pos e]
        exact ⟨q1, r3, hc b p2 hS hpt, Or.inr (by rw [q2, decide_eq_true rfl, Bool.or_true])⟩
      · rw [if_neg e]
        obtain ⟨h1, h2, h3, h4⟩ := b1 t (by omega)
        exact ⟨h1, h2, h3, h4.imp id fun z => by rw [z, Bool.true_or]⟩
    · have e : (if t = m then pt b else wq t) = (if u = m then pt b else wq u) := e
      by_cases e1 : t = m
      · by_cases e2 : u = m
        · omega
        · rw [if_pos e1, if_neg e2] at e
          exact absurd e.symm (hnew u (by omega))
      · by_cases e2 : u = m
        · rw [if_neg e1, if_pos e2] at e
          exact absurd e (hnew t (by omega))
        · rw [if_neg e1, if_neg e2] at e
          exact b2 t u (by omega) (by omega) e
    · have hx : (V x || decide (x = b)) = true := hx
      show x < n ∧ B x = true ∧ S x = false ∧ pt x ≠ 24 ∧ ∃ s t, s < t ∧ t < m + 1 ∧ (if t = m then pt b else wq t) = pt x ∧ (if x = b then wq c else fr x) = (if s = m then pt b else wq s) ∧ E (if s = m then pt b else wq s) x = true
      by_cases e : x = b
      · rw [e]
        refine ⟨p2, p4, hS, hpt, c, m, hcm, by omega, if_pos rfl, ?_, ?_⟩
        · rw [if_pos rfl, if_neg (by omega)]
        · rw [if_neg (by omega)]
          exact hE
      · rw [decide_eq_false e, Bool.or_false] at hx
        obtain ⟨h1, h2, h3, h4, s, t, h5, h6, h7, h8, h9⟩ := b3 x hx
        refine ⟨h1, h2, h3, h4, s, t, h5, by omega, ?_, ?_, ?_⟩
        · rw [if_neg (by omega)]
          exact h7
        · rw [if_neg e, if_neg (by omega)]
          exact h8
        · rw [if_neg (by omega)]
          exact h9
    · have hE' : E (if t = m then pt b else wq t) x = true := hE'
      rw [if_neg (by omega)] at hE'
      show (V x || decide (x = b)) = true
      rw [b4 t x ht hE' hS', Bool.true_or]
  refine ⟨hB', ?_⟩
  have := bf_m hB'
  omega
noncomputable def inQ (wq : Nat → Nat) (m x : Nat) : Bool := @decide (∃ t, t < m ∧ wq t = x) (Classical.propDecidable _)
theorem inQ_i {x : Nat} : inQ wq m x = true ↔ ∃ t, t < m ∧ wq t = x := by
  unfold inQ
  exact @decide_eq_true_iff _ (Classical.propDecidable _)
theorem bf_cl (hG : GR n A B E) (hB : Bf n A B E S pt wq m m V fr) : Cl n B E S pt (fun x => inQ wq m x || V x) := by
  obtain ⟨b1, b2, b3, b4⟩ := hB
  refine ⟨fun a b hE ha hb hT => ?_, fun b hb hBb hT => ?_⟩
  · have hT : (inQ wq m a || V a) = true := hT
    show (inQ wq m b || V b) = true
    rw [Bool.or_eq_true] at hT
    rcases hT with h | h
    · obtain ⟨t, ht, rfl⟩ := inQ_i.mp h
      rw [b4 t b ht hE hb, Bool.or_true]
    · exact absurd (hG.2.1 a b hE).2.2.1 (fun z => hG.2.2 a z (b3 a h).2.1)
  · have hT : (inQ wq m b || V b) = true := hT
    show S b = false ∧ pt b ≠ 24 ∧ (inQ wq m (pt b) || V (pt b)) = true
    rw [Bool.or_eq_true] at hT
    rcases hT with h | h
    · obtain ⟨t, ht, rfl⟩ := inQ_i.mp h
      exact absurd (b1 t ht).2.1 (fun z => hG.2.2 _ z hBb)
    · obtain ⟨_, _, h3, h4, s, t, h5, h6, h7, _⟩ := b3 b h
      exact ⟨h3, h4, by rw [inQ_i.mpr ⟨t, h6, h7⟩, Bool.true_or]⟩
theorem cl_or {T' : Nat → Bool} (h : Cl n B E S pt T) (g : Cl n B E S pt T') : Cl n B E S pt (fun x => T x || T' x) := by
  refine ⟨fun a b hE ha hb hT => ?_, fun b hb hBb hT => ?_⟩
  · have hT : (T a || T' a) = true := hT
    show (T b || T' b) = true
    rw [Bool.or_eq_true] at hT ⊢
    exact hT.imp (h.1 a b hE ha hb) (g.1 a b hE ha hb)
  · have hT : (T b || T' b) = true := hT
    show S b = false ∧ pt b ≠ 24 ∧ (T (pt b) || T' (pt b)) = true
    rw [Bool.or_eq_true] at hT ⊢
    rcases hT with z | z
    · obtain ⟨h1, h2, h3⟩ := h.2 b hb hBb z
      exact ⟨h1, h2, Or.inl h3⟩
    · obtain ⟨h1, h2, h3⟩ := g.2 b hb hBb z
      exact ⟨h1, h2, Or.inr h3⟩
theorem cl_pt (h : Cl n B E S pt T) (e : ∀ x, T x = true → pt' x = pt x) : Cl n B E S pt' T := ⟨h.1, fun b hb hBb hT => by
  rw [e b hT]
  exact h.2 b hb hBb hT⟩
/-- turning: all is paired but b, which is to go to wq s -/
def Pmx (n : Nat) (E : Nat → Nat → Bool) (pt : Nat → Nat) (b : Nat) : Prop := ∀ x, x < n → x ≠ b → pt x = 24 ∨ (pt x < n ∧ pt x ≠ b ∧ pt (pt x) = x ∧ edg E x (pt x))
def Tu (n : Nat) (A : Nat → Bool) (E : Nat → Nat → Bool) (S T : Nat → Bool) (pt wq : Nat → Nat) (m : Nat) (pt' : Nat → Nat) (b s : Nat) : Prop :=
  (b < n ∧ S b = false ∧ E (wq s) b = true ∧ s < m ∧ T b = false) ∧ Pmx n E pt' b ∧ (∀ t, t ≤ s → pt' (wq t) = pt (wq t)) ∧ (∀ x, x < n → x ≠ b → S x = false → pt' x ≠ 24 → S (pt' x) = false) ∧ (∀ x, S x = true ∨ T x = true → pt' x = pt x) ∧ (∀ a, A a = true → (pt' a = 24 ↔ pt a = 24)) ∧ ∀ x, n ≤ x → pt' x = pt x
/-- turned: a has a partner, too -/
def Au (n : Nat) (A : Nat → Bool) (E : Nat → Nat → Bool) (S T : Nat → Bool) (pt pt' : Nat → Nat) (a : Nat) : Prop :=
  Pm n E pt' ∧ Cs n S pt' ∧ (∀ x, S x = true ∨ T x = true → pt' x = pt x) ∧ (∀ c, A c = true → c ≠ a → (pt' c = 24 ↔ pt c = 24)) ∧ (pt' a ≠ 24 ∧ pt a = 24 ∧ a < n ∧ A a = true ∧ S a = false) ∧ ∀ x, n ≤ x → pt' x = pt x
def tnP (pt : Nat → Nat) (a b : Nat) : Nat → Nat := fun x => if x = b then a else if x = a then b else pt x
theorem tu_start (hp : Pm n E pt) (hG : GR n A B E) (hc : Cs n S pt) (hT : Cl n B E S pt T) (hB : Bf n A B E S pt wq m c V fr) (hcm : c < m) (hE : E (wq c) b = true) (hS : S b = false) (hpt : pt b = 24) : Tu n A E S T pt wq m pt b c := by
  obtain ⟨_, p2, _, p4⟩ := hG.2.1 _ _ hE
  have g0 := hG.1
  refine ⟨⟨p2, hS, hE, hcm, ?_⟩, fun x hx hne => ?_, fun _ _ => rfl, fun x hx _ => hc x hx, fun _ _ => rfl, fun _ _ => Iff.rfl, fun _ _ => rfl⟩
  · cases e : T b with
    | false => rfl
    | true => exact absurd hpt (hT.2 b p2 p4 e).2.1
  · refine (hp x hx).imp id fun ⟨h1, h2, h3⟩ => ⟨h1, fun z => ?_, h2, h3⟩
    rw [z, hpt] at h2
    omega
theorem tu_step (hp : Pm n E pt) (hG : GR n A B E) (hT : Cl n B E S pt T) (hB : Bf n A B E S pt wq m c V fr) (h : Tu n A E S T pt wq m pt' b s) : (pt' (wq s) = 24 → Au n A E S T pt (tnP pt' (wq s) b) (wq s)) ∧ (pt' (wq s) ≠ 24 → pt' (wq s) < n ∧ ∃ s', s' < s ∧ fr (pt' (wq s)) = wq s' ∧ Tu n A E S T pt wq m (tnP pt' (wq s) b) (pt' (wq s)) s') := by
  obtain ⟨⟨t1, t2, t3, t4, t5⟩, u2, u3, u4, u5, u6, u7⟩ := h
  obtain ⟨b1, b2, b3, b4⟩ := hB
  obtain ⟨a1, a2, a3, a4⟩ := b1 s t4
  obtain ⟨_, _, _, hBb⟩ := hG.2.1 _ _ t3
  have g0 := hG.1
  obtain ⟨a, ha⟩ : ∃ a, a = wq s := ⟨_, rfl⟩
  rw [← ha] at a1 a2 a3 a4 t3 ⊢
  have hab : a ≠ b := fun z => hG.2.2 b (by rw [← z]; exact a2) hBb
  have hpa : pt' a = pt a := by rw [ha]; exact u3 s (Nat.le_refl s)
  have hTa : T a = false := by
    cases e : T a with
    | false => rfl
    | true =>
      have := hT.1 a b t3 a3 t2 e
      rw [t5] at this
      cases this
  have qa : tnP pt' a b a = b := by unfold tnP; rw [if_neg hab, if_pos rfl]
  have qb : tnP pt' a b b = a := by unfold tnP; rw [if_pos rfl]
  have qo : ∀ x, x ≠ a → x ≠ b → tnP pt' a b x = pt' x := fun x x1 x2 => by unfold tnP; rw [if_neg x2, if_neg x1]
  have hcs : ∀ x, x < n → S x = false → (x = b ∨ x = a ∨ tnP pt' a b x ≠ 24) → (x ≠ b → x ≠ a → S (pt' x) = false) → S (tnP pt' a b x) = false := fun x hx hS _ ho => by
    by_cases e1 : x = b
    · rw [e1, qb]; exact a3
    · by_cases e2 : x = a
      · rw [e2, qa]; exact t2
      · rw [qo x e2 e1]; exact ho e1 e2
  have hST : ∀ x, S x = true ∨ T x = true → tnP pt' a b x = pt x := fun x hx => by
    have n1 : x ≠ a := fun z => by
      rw [z, a3, hTa] at hx
      simp at hx
    have n2 : x ≠ b := fun z => by
      rw [z, t2, t5] at hx
      simp at hx
    rw [qo x n1 n2]
    exact u5 x hx
  have hbig : ∀ x, n ≤ x → tnP pt' a b x = pt x := fun x hx => by rw [qo x (by omega) (by omega)]; exact u7 x hx
  refine ⟨fun h24 => ?_, fun h24 => ?_⟩
  · refine ⟨fun x hx => ?_, fun x hx hS h2 => ?_, hST, fun d hA hne => ?_, ⟨by rw [qa]; omega, by rw [← hpa]; exact h24, a1, a2, a3⟩, hbig⟩
    · by_cases e1 : x = b
      · rw [e1, qb, qa]
        exact Or.inr ⟨a1, rfl, Or.inr t3⟩
      · by_cases e2 : x = a
        · rw [e2, qa, qb]
          exact Or.inr ⟨t1, rfl, Or.inl t3⟩
        · rw [qo x e2 e1]
          refine (u2 x hx e1).imp id fun ⟨h1, h2, h3, h4⟩ => ⟨h1, ?_, h4⟩
          rw [qo _ (fun z => by rw [z, h24] at h3; omega) h2]
          exact h3
    · refine hcs x hx hS (Or.inr (Or.inr h2)) fun e1 e2 => ?_
      rw [qo x e2 e1] at h2
      exact u4 x hx e1 hS h2
    · have n2 : d ≠ b := fun z => hG.2.2 b (by rw [← z]; exact hA) hBb
      rw [qo d hne n2]
      exact u6 d hA
  · obtain ⟨v1, v2, v3, v4⟩ := (u2 a a1 hab).resolve_left h24
    have hEa := edg_A hG v4 a2
    obtain ⟨_, _, _, hBb'⟩ := hG.2.1 _ _ hEa
    have hab' : a ≠ pt' a := fun z => hG.2.2 a a2 (by rw [z]; exact hBb')
    have hV := a4.resolve_left (by rw [← hpa]; exact h24)
    rw [← hpa] at hV
    obtain ⟨_, _, w3, w4, s', t, w5, w6, w7, w8, w9⟩ := b3 _ hV
    have hpb : pt (pt' a) = a := by
      rcases hp a a1 with z | z
      · rw [hpa] at h24
        exact absurd z h24
      · rw [hpa]
        exact z.2.1
    have hts : t = s := b2 t s w6 t4 (by rw [w7, hpb, ha])
    refine ⟨v1, s', by omega, w8, ⟨v1, w3, w9, by omega, ?_⟩, fun x hx hne => ?_, fun u hu => ?_, fun x hx hne hS h2 => ?_, hST, fun d hA => ?_, hbig⟩
    · cases e : T (pt' a) with
      | false => rfl
      | true =>
        have := (hT.2 _ v1 hBb' e).2.2
        rw [hpb, hTa] at this
        cases this
    · by_cases e1 : x = b
      · rw [e1, qb, qa]
        exact Or.inr ⟨a1, hab', rfl, Or.inr t3⟩
      · by_cases e2 : x = a
        · rw [e2, qa, qb]
          exact Or.inr ⟨t1, fun z => v2 z.symm, rfl, Or.inl t3⟩
        · rw [qo x e2 e1]
          refine (u2 x hx e1).imp id fun ⟨h1, h2, h3, h4⟩ => ⟨h1, fun z => ?_, ?_, h4⟩
          · rw [z, v3] at h3
            exact e2 h3.symm
          · rw [qo _ (fun z => by rw [z] at h3; exact hne h3.symm) h2]
            exact h3
    · have n1 : wq u ≠ a := fun z => by
        have := b2 u s (by omega) t4 (by rw [z, ha])
        omega
      have n2 : wq u ≠ b := fun z => hG.2.2 b (by rw [← z]; exact (b1 u (by omega)).2.1) hBb
      rw [qo _ n1 n2]
      exact u3 u (by omega)
    · refine hcs x hx hS (Or.inr (Or.inr h2)) fun e1 e2 => ?_
      rw [qo x e2 e1] at h2
      exact u4 x hx e1 hS h2
    · by_cases e2 : d = a
      · rw [e2, qa, ← hpa]
        exact ⟨fun z => absurd z (by omega), fun z => absurd z h24⟩
      · have n2 : d ≠ b := fun z => hG.2.2 b (by rw [← z]; exact hA) hBb
        rw [qo d e2 n2]
        exact u6 d hA
theorem au_sz (h : Au n A E S T pt pt' a) : szF n (fR A S pt') = szF n (fR A S pt) + 1 := by
  obtain ⟨_, _, _, h4, ⟨h5, h6, h7, h8, h9⟩, _⟩ := h
  refine cn_up (P := fun x => !decide (fR A S pt x = 24)) (Q := fun x => !decide (fR A S pt' x = 24)) h7 ?_ ?_ fun x hx hne => ?_
  · show (!decide (fR A S pt a = 24)) = false
    rw [fR_y h8 h9, h6]
    rfl
  · show (!decide (fR A S pt' a = 24)) = true
    rw [fR_y h8 h9]
    simp [h5]
  · show (!decide (fR A S pt' x = 24)) = (!decide (fR A S pt x = 24))
    cases hA : A x with
    | false => rw [fR_n (Or.inl hA), fR_n (Or.inl hA)]
    | true =>
      cases hS : S x with
      | true => rw [fR_n (Or.inr hS), fR_n (Or.inr hS)]
      | false =>
        rw [fR_y hA hS, fR_y hA hS]
        have := h4 x hA hne
        by_cases e : pt x = 24
        · rw [this.mpr e, e]
        · rw [decide_eq_false e, decide_eq_false (fun z => e (this.mp z))]
end KM3
