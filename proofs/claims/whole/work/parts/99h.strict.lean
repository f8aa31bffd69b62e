/-! LAYER C: a call that ends, ends with a value of its type -/
def tok (rt : Option FieldType) (v : Option Value) : Prop := match rt with
  | none => v = none
  | some .int => ∃ x, v = some (.int x)
  | some .boolean => ∃ x, v = some (.int x)
  | some .long => ∃ x, v = some (.long x)
  | some _ => ∃ x, v = some (.ref x)
def sk (rt : Option FieldType) (S : ZSt) : Prop := ∀ (σ : ZS) (N : ZS → Prop) (P : Option Value → ZM → Prop) (B : Nat → ZS → Prop), (∀ σ, ¬ N σ) → (∀ v μ, tok rt v → ¬ P v μ) → (∀ k σ, ¬ B k σ) → ¬ S σ N P B
def xk {α : Type} (f : XE α) : Prop := ∀ (σ : ZS) (Q : α → ZS → Prop), (∀ x σ', ¬ Q x σ') → ¬ f σ Q
def kkk (K : ZKt) : Prop := ∀ k as μ (P : Option Value → ZM → Prop), (∀ v μ, ¬ P v μ) → ¬ K k as μ P
section SK
variable {rt : Option FieldType} {K : ZKt} {Z : List ZD}
theorem xk_p {α : Type} {f : PE α} : xk (xP f) := fun σ Q h z => h _ _ z.2
theorem xk_cs {α : Type} {tg : α → Value} {k : Nat} {as : PE (List Value)} (hK : kkk K) : xk (xCS tg K k as) := fun σ Q h z => hK _ _ _ _ (fun v μ ⟨x, _, q⟩ => h _ _ q) z.2
theorem xk_cv {α : Type} {tg : α → Value} {k ci : Nat} {as : PE (List Value)} (hK : kkk K) : xk (xCV tg Z ci K k as) := fun σ Q h z => hK _ _ _ _ (fun v μ ⟨x, _, q⟩ => h _ _ q) z.2.2
theorem xk_nz {f : XE Int32} (hf : xk f) : xk (xNz f) := fun σ Q h z => hf _ _ (fun x σ' => h _ _) z
theorem xk_i {f : XE Bool} (hf : xk f) : xk (xI f) := fun σ Q h z => hf _ _ (fun x σ' => h _ _) z
theorem xk_not {f : XE Bool} (hf : xk f) : xk (xNot f) := fun σ Q h z => hf _ _ (fun x σ' => h _ _) z
theorem xk_and {a b : XE Bool} (ha : xk a) (hb : xk b) : xk (xAnd a b) := fun σ Q h z => ha _ _ (fun t σ' q => by
  cases t with
  | true => exact hb _ _ h (q.1 rfl)
  | false => exact h _ _ (q.2 rfl)) z
theorem xk_or {a b : XE Bool} (ha : xk a) (hb : xk b) : xk (xOr a b) := fun σ Q h z => ha _ _ (fun t σ' q => by
  cases t with
  | true => exact h _ _ (q.1 rfl)
  | false => exact hb _ _ h (q.2 rfl)) z
theorem xk_t {α : Type} {c : XE Bool} {a b : XE α} (hc : xk c) (ha : xk a) (hb : xk b) : xk (xT c a b) := fun σ Q h z => hc _ _ (fun t σ' q => by
  cases t with
  | true => exact ha _ _ h (q.1 rfl)
  | false => exact hb _ _ h (q.2 rfl)) z
theorem xk_b {α β γ : Type} {f : α → β → γ} {a : PE α} {b : XE β} (hb : xk b) : xk (xB f a b) := fun σ Q h z => hb _ _ (fun x σ' => h _ _) z.2
theorem xk_inc {ci k : Nat} {a : PE Nat} : xk (xInc Z ci k a) := fun σ Q h z => h _ _ z.2.2
theorem xk_pre {ci k : Nat} {a : PE Nat} : xk (xPre Z ci k a) := fun σ Q h z => h _ _ z.2.2
theorem xk_incl {i : Nat} : xk (xIncL i) := fun σ Q h z => h _ _ z.2
theorem xk_eq {a : XE Int32} {b : PE Int32} (ha : xk a) : xk (xEq a b) := fun σ Q h z => ha _ _ (fun x σ' q => h _ _ q.2) z
theorem sk_skip : sk rt sSkip := fun σ N P B hN hP hB z => hN _ z
theorem sk_seq {a b : ZSt} (ha : sk rt a) (hb : sk rt b) : sk rt (sSeq a b) := fun σ N P B hN hP hB z => ha _ _ _ _ (fun σ' q => hb _ _ _ _ hN hP hB q) hP hB z
theorem sk_if {c : XE Bool} {a b : ZSt} (hc : xk c) (ha : sk rt a) (hb : sk rt b) : sk rt (sIf c a b) := fun σ N P B hN hP hB z => hc _ _ (fun t σ' q => by
  cases t with
  | true => exact ha _ _ _ _ hN hP hB (q.1 rfl)
  | false => exact hb _ _ _ _ hN hP hB (q.2 rfl)) z
theorem sk_whl {c : XE Bool} {a : ZSt} (hc : xk c) (ha : sk rt a) : sk rt (sWhl c a) := fun σ N P B hN hP hB z => by
  obtain ⟨I, n, h0, hs⟩ := z
  have key : ∀ n σ, ¬ I n σ := by
    intro n
    induction n using Nat.strongRecOn with
    | _ n ih =>
      intro σ h
      exact hc _ _ (fun t σ' q => by
        cases t with
        | true => exact ha _ _ _ _ (fun σ2 ⟨n', l, q2⟩ => ih n' l σ2 q2) hP hB (q.1 rfl)
        | false => exact hN _ (q.2 rfl)) (hs n σ h)
  exact key n σ h0
theorem sk_for {kb kc : Nat} {c : XE Bool} {u a : ZSt} (hc : xk c) (hu : sk rt u) (ha : sk rt a) : sk rt (sFor kb kc c u a) := fun σ N P B hN hP hB z => by
  obtain ⟨I, n, h0, hs⟩ := z
  have key : ∀ n σ, ¬ I n σ := by
    intro n
    induction n using Nat.strongRecOn with
    | _ n ih =>
      intro σ h
      exact hc _ _ (fun t σ' q => by
        cases t with
        | true => exact ha _ _ _ _ (fun σ2 q2 => hu _ _ _ _ (fun σ3 ⟨n', l, q3⟩ => ih n' l σ3 q3) hP hB q2) hP (fun k σ2 q2 => by
            split at q2
            · exact hu _ _ _ _ (fun σ3 ⟨n', l, q3⟩ => ih n' l σ3 q3) hP hB q2
            · split at q2
              · exact hN _ q2
              · exact hB _ _ q2) (q.1 rfl)
        | false => exact hN _ (q.2 rfl)) (hs n σ h)
  exact key n σ h0
theorem sk_forT {m kb kc : Nat} {c : XE Bool} {u a : ZSt} (hc : xk c) (hu : sk rt u) (ha : sk rt a) : sk rt (sForT m kb kc c u a) := fun σ N P B hN hP hB z => by
  obtain ⟨I, n, h0, hs⟩ := z
  have key : ∀ n σ, ¬ I n σ := by
    intro n
    induction n using Nat.strongRecOn with
    | _ n ih =>
      intro σ h
      exact hc _ _ (fun t σ' q => by
        cases t with
        | true => exact ha _ _ _ _ (fun σ2 q2 => hu _ _ _ _ (fun σ3 ⟨n', l, q3⟩ => ih n' l σ3 q3) hP hB q2) hP (fun k σ2 q2 => by
            split at q2
            · exact hu _ _ _ _ (fun σ3 ⟨n', l, q3⟩ => ih n' l σ3 q3) hP hB q2.2
            · split at q2
              · exact hN _ q2
              · exact hB _ _ q2) (q.1 rfl)
        | false => exact hN _ (q.2 rfl)) (hs n σ h)
  exact key n σ h0
theorem sk_brk {k : Nat} : sk rt (sBrk k) := fun σ N P B hN hP hB z => hB _ _ z
theorem sk_scope {n : Nat} {a : ZSt} (ha : sk rt a) : sk rt (sScope n a) := fun σ N P B hN hP hB z => ha _ _ _ _ (fun σ' q => hN _ q.2) hP hB z
theorem sk_deci {i : Nat} {f : XE Int32} (h : xk f) : sk rt (sDecI i f) := fun σ N P B hN hP hB z => h _ _ (fun x σ' q => hN _ q.2) z
theorem sk_decl {i : Nat} {f : XE Int64} (h : xk f) : sk rt (sDecL i f) := fun σ N P B hN hP hB z => h _ _ (fun x σ' q => hN _ q.2) z
theorem sk_decr {i : Nat} {f : XE Nat} (h : xk f) : sk rt (sDecR i f) := fun σ N P B hN hP hB z => h _ _ (fun x σ' q => hN _ q.2) z
theorem sk_seti {i : Nat} {f : XE Int32} (h : xk f) : sk rt (sSetI i f) := fun σ N P B hN hP hB z => h _ _ (fun x σ' q => hN _ q.2) z
theorem sk_setl {i : Nat} {f : XE Int64} (h : xk f) : sk rt (sSetL i f) := fun σ N P B hN hP hB z => h _ _ (fun x σ' q => hN _ q.2) z
theorem sk_inc {i : Nat} {n : Int32} : sk rt (sInc i n) := fun σ N P B hN hP hB z => hN _ z.2
theorem sk_reti {f : XE Int32} (h : xk f) : sk (some .int) (sRetI f) := fun σ N P B hN hP hB z => h _ _ (fun x σ' q => hP _ _ ⟨x, rfl⟩ q) z
theorem sk_retz {f : XE Int32} (h : xk f) : sk (some .boolean) (sRetZ f) := fun σ N P B hN hP hB z => h _ _ (fun x σ' q => hP _ _ ⟨x, rfl⟩ q.2) z
theorem sk_retl {f : XE Int64} (h : xk f) : sk (some .long) (sRetL f) := fun σ N P B hN hP hB z => h _ _ (fun x σ' q => hP _ _ ⟨x, rfl⟩ q) z
theorem sk_retr {ty : FieldType} {f : XE Nat} (h : xk f) : sk (some (.array ty)) (sRetR f) := fun σ N P B hN hP hB z => h _ _ (fun x σ' q => hP _ _ ⟨x, rfl⟩ q) z
theorem sk_retv : sk none sRetV := fun σ N P B hN hP hB z => hP _ _ rfl z
theorem sk_cs {k : Nat} {as : PE (List Value)} (hK : kkk K) : sk rt (sCS K k as) := fun σ N P B hN hP hB z => hK _ _ _ _ (fun v μ q => hN _ q.2) z.2
theorem sk_cv {k ci : Nat} {as : PE (List Value)} (hK : kkk K) : sk rt (sCV Z ci K k as) := fun σ N P B hN hP hB z => hK _ _ _ _ (fun v μ q => hN _ q.2) z.2.2
theorem sk_put {z : Bool} {ci k : Nat} {a : PE Nat} {f : XE Int32} (h : xk f) : sk rt (sPut Z z ci k a f) := fun σ N P B hN hP hB z => h _ _ (fun x σ' q => hN _ q.2.2) z.2
theorem sk_putl {ci k : Nat} {a : PE Nat} {f : XE Int64} (h : xk f) : sk rt (sPutL Z ci k a f) := fun σ N P B hN hP hB z => h _ _ (fun x σ' q => hN _ q.2) z.2
theorem sk_upd {ci k : Nat} {a : PE Nat} {g : Int32 → Int32 → Int32} {f : PE Int32} : sk rt (sUpd Z ci k a g f) := fun σ N P B hN hP hB z => hN _ z.2.2.2
theorem sk_st {t : Nat} {a : PE Nat} {i f : XE Int32} (hi : xk i) (h : xk f) : sk rt (sSt Z t a i f) := fun σ N P B hN hP hB z => hi _ _ (fun j σ1 q => h _ _ (fun x σ' q2 => hN _ q2.2) q) z.2
theorem sk_stl {a : PE Nat} {i : PE Int32} {f : PE Int64} : sk rt (sStL Z a i f) := fun σ N P B hN hP hB z => hN _ z.2.2.2.2
theorem sk_stu {a : PE Nat} {i f : PE Int32} {g : Int32 → Int32 → Int32} : sk rt (sStU Z a i g f) := fun σ N P B hN hP hB z => hN _ z.2.2.2.2
theorem sk_stul {a : PE Nat} {i : PE Int32} {f : PE Int64} {g : Int64 → Int64 → Int64} : sk rt (sStUL Z a i g f) := fun σ N P B hN hP hB z => hN _ z.2.2.2.2
theorem sk_cpy {a b : PE Nat} {n : PE Int32} : sk rt (sCpy Z a b n) := fun σ N P B hN hP hB z => hN _ z.2.2.2.2.2
theorem sk_cpyl {a b : PE Nat} {n : PE Int32} : sk rt (sCpyL Z a b n) := fun σ N P B hN hP hB z => hN _ z.2.2.2.2.2
def ska (rt : Option FieldType) (l : List (Int32 × ZSt)) : Prop := ∀ q ∈ l, sk rt q.2
theorem ska_nil : ska rt [] := fun q h => by cases h
theorem ska_cons {c : Int32} {S : ZSt} {l : List (Int32 × ZSt)} (h : sk rt S) (hl : ska rt l) : ska rt ((c, S) :: l) := fun q hq => by
  rcases List.mem_cons.mp hq with e | e
  · rw [e]; exact h
  · exact hl q e
theorem sk_zsw {D : ZSt} (hD : sk rt D) : ∀ (l : List (Int32 × ZSt)) (x : Int32), ska rt l → sk rt (zsw l D x)
  | [], x, _ => hD
  | (c, S) :: r, x, h => fun σ N P B hN hP hB z => by
    by_cases e : x = c
    · exact h _ List.mem_cons_self _ _ _ _ hN hP hB (z.1 e)
    · exact sk_zsw hD r x (fun q hq => h q (List.mem_cons_of_mem _ hq)) _ _ _ _ hN hP hB (z.2 e)
theorem sk_sw {f : XE Int32} {l : List (Int32 × ZSt)} {D : ZSt} (hf : xk f) (hl : ska rt l) (hD : sk rt D) : sk rt (sSw f l D) := fun σ N P B hN hP hB z => hf _ _ (fun x σ' q => sk_zsw hD l x hl _ _ _ _ hN hP hB q) z
end SK

theorem sb_0 {Z : List ZD} {K : ZKt} {F : ZFt} (hK : kkk K) : sk (none) (bd_0 Z K F) := by
  unfold bd_0
  exact (sk_seq (sk_seq (sk_if xk_p sk_retv sk_skip) (sk_seq (sk_st xk_p xk_p) (sk_seq (sk_st xk_p xk_p) (sk_seq (sk_st xk_p xk_p) (sk_seq sk_cpy (sk_seq sk_cpy sk_upd)))))) sk_retv)
theorem sb_1 {Z : List ZD} {K : ZKt} {F : ZFt} (hK : kkk K) : sk (some .int) (bd_1 Z K F) := by
  unfold bd_1
  exact (sk_seq (sk_deci xk_p) (sk_seq (sk_deci xk_p) (sk_sw xk_p (ska_cons (sk_reti xk_p) (ska_cons (sk_reti xk_p) (ska_cons (sk_reti xk_p) (ska_cons (sk_reti xk_p) (ska_cons (sk_reti xk_p) (ska_cons (sk_reti xk_p) ska_nil)))))) (sk_reti xk_p))))
theorem sb_2 {Z : List ZD} {K : ZKt} {F : ZFt} (hK : kkk K) : sk (some .int) (bd_2 Z K F) := by
  unfold bd_2
  exact (sk_seq (sk_deci xk_p) (sk_seq (sk_scope (sk_seq (sk_deci xk_p) (sk_whl xk_p (sk_seq (sk_seti xk_p) sk_inc)))) (sk_reti xk_p)))
theorem sb_3 {Z : List ZD} {K : ZKt} {F : ZFt} (hK : kkk K) : sk (some .int) (bd_3 Z K F) := by
  unfold bd_3
  exact (sk_seq (sk_deci xk_p) (sk_seq (sk_scope (sk_seq (sk_deci xk_p) (sk_whl xk_p (sk_seq (sk_seti xk_p) sk_inc)))) (sk_reti xk_p)))
theorem sb_4 {Z : List ZD} {K : ZKt} {F : ZFt} (hK : kkk K) : sk (some .int) (bd_4 Z K F) := by
  unfold bd_4
  exact (sk_seq (sk_deci xk_p) (sk_reti xk_p))
theorem sb_5 {Z : List ZD} {K : ZKt} {F : ZFt} (hK : kkk K) : sk (some .int) (bd_5 Z K F) := by
  unfold bd_5
  exact (sk_seq (sk_deci xk_p) (sk_seq (sk_scope (sk_seq (sk_deci xk_p) (sk_whl xk_p (sk_seq (sk_if xk_p sk_inc sk_skip) sk_inc)))) (sk_reti xk_p)))
theorem sb_6 {Z : List ZD} {K : ZKt} {F : ZFt} (hK : kkk K) : sk (some .long) (bd_6 Z K F) := by
  unfold bd_6
  exact (sk_seq (sk_cv hK) (sk_seq (sk_deci xk_p) (sk_seq (sk_decl xk_p) (sk_seq (sk_decl xk_p) (sk_seq (sk_scope (sk_seq (sk_deci xk_p) (sk_whl xk_p (sk_seq (sk_seq (sk_setl xk_p) (sk_if xk_p (sk_setl xk_p) sk_skip)) sk_inc)))) (sk_seq (sk_decl xk_p) (sk_seq (sk_if xk_p (sk_retl xk_p) sk_skip) (sk_retl xk_p))))))))
theorem sb_7 {Z : List ZD} {K : ZKt} {F : ZFt} (hK : kkk K) : sk (none) (bd_7 Z K F) := by
  unfold bd_7
  exact (sk_seq (sk_seq (sk_cs hK) (sk_seq sk_stl (sk_scope (sk_seq (sk_deci xk_p) (sk_whl xk_p (sk_seq (sk_cv hK) sk_inc)))))) sk_retv)
theorem sb_8 {Z : List ZD} {K : ZKt} {F : ZFt} (hK : kkk K) : sk (none) (be_8 Z K F) := by
  unfold be_8
  exact (sk_seq (sk_seq (sk_cs hK) (sk_seq (sk_scope (sk_seq (sk_deci xk_p) (sk_forT xk_p sk_inc (sk_scope (sk_seq (sk_decl xk_p) (sk_seq (sk_if xk_p sk_brk sk_skip) (sk_seq (sk_deci xk_p) (sk_seq (sk_deci xk_p) (sk_seq (sk_deci xk_p) (sk_scope (sk_seq (sk_deci xk_p) (sk_whl xk_p (sk_seq sk_stul sk_inc))))))))))))) sk_cpyl)) sk_retv)
theorem sb_9 {Z : List ZD} {K : ZKt} {F : ZFt} (hK : kkk K) : sk (some .long) (bd_9 Z K F) := by
  unfold bd_9
  exact (sk_seq (sk_decl xk_p) (sk_seq (sk_decl xk_p) (sk_seq (sk_scope (sk_seq (sk_deci xk_p) (sk_whl xk_p (sk_seq (sk_scope (sk_seq (sk_decl xk_p) (sk_seq (sk_setl xk_p) (sk_setl xk_p)))) sk_inc)))) (sk_retl xk_p))))
theorem sb_10 {Z : List ZD} {K : ZKt} {F : ZFt} (hK : kkk K) : sk (some .long) (bd_10 Z K F) := by
  unfold bd_10
  exact (sk_seq (sk_decl xk_p) (sk_seq (sk_scope (sk_seq (sk_deci xk_p) (sk_whl xk_p (sk_seq (sk_scope (sk_seq (sk_deci xk_p) (sk_whl xk_p (sk_seq (sk_setl xk_p) sk_inc)))) sk_inc)))) (sk_retl xk_p)))
theorem sb_11 {Z : List ZD} {K : ZKt} {F : ZFt} (hK : kkk K) : sk (some (.array .int)) (bd_11 Z K F) := by
  unfold bd_11
  exact (sk_seq (sk_if xk_p (sk_retr xk_p) sk_skip) (sk_retr xk_p))
theorem sb_12 {Z : List ZD} {K : ZKt} {F : ZFt} (hK : kkk K) : sk (some .int) (bd_12 Z K F) := by
  unfold bd_12
  exact (sk_seq (sk_if xk_p (sk_reti xk_p) sk_skip) (sk_reti xk_p))
theorem sb_13 {Z : List ZD} {K : ZKt} {F : ZFt} (hK : kkk K) : sk (some .boolean) (bd_13 Z K F) := by
  unfold bd_13
  exact (sk_seq (sk_deci xk_p) (sk_retz xk_p))
theorem sb_14 {Z : List ZD} {K : ZKt} {F : ZFt} (hK : kkk K) : sk (some .int) (bd_14 Z K F) := by
  unfold bd_14
  exact (sk_seq (sk_deci xk_p) (sk_sw xk_p (ska_cons (sk_reti xk_p) (ska_cons (sk_reti xk_p) (ska_cons (sk_reti xk_p) (ska_cons (sk_reti xk_p) (ska_cons (sk_reti xk_p) (ska_cons (sk_reti xk_p) ska_nil)))))) (sk_reti xk_p)))
theorem sb_15 {Z : List ZD} {K : ZKt} {F : ZFt} (hK : kkk K) : sk (some .int) (bd_15 Z K F) := by
  unfold bd_15
  exact (sk_seq (sk_deci xk_p) (sk_sw xk_p (ska_cons (sk_reti xk_p) (ska_cons (sk_reti xk_p) (ska_cons (sk_reti xk_p) (ska_cons (sk_reti xk_p) (ska_cons (sk_reti xk_p) (ska_cons (sk_reti xk_p) ska_nil)))))) (sk_reti xk_p)))
theorem sb_16 {Z : List ZD} {K : ZKt} {F : ZFt} (hK : kkk K) : sk (some .int) (bd_16 Z K F) := by
  unfold bd_16
  exact (sk_reti xk_p)
theorem sb_17 {Z : List ZD} {K : ZKt} {F : ZFt} (hK : kkk K) : sk (some .int) (bd_17 Z K F) := by
  unfold bd_17
  exact (sk_reti xk_p)
theorem sb_18 {Z : List ZD} {K : ZKt} {F : ZFt} (hK : kkk K) : sk (some .int) (bd_18 Z K F) := by
  unfold bd_18
  exact (sk_seq (sk_deci xk_p) (sk_reti xk_p))
theorem sb_19 {Z : List ZD} {K : ZKt} {F : ZFt} (hK : kkk K) : sk (some .boolean) (bd_19 Z K F) := by
  unfold bd_19
  exact (sk_seq (sk_scope (sk_seq (sk_decr xk_p) (sk_seq (sk_deci xk_p) (sk_seq (sk_deci xk_p) (sk_whl xk_p (sk_seq (sk_scope (sk_seq (sk_deci xk_p) (sk_if xk_p (sk_retz xk_p) sk_skip))) sk_inc)))))) (sk_retz xk_p))
theorem sb_20 {Z : List ZD} {K : ZKt} {F : ZFt} (hK : kkk K) : sk (some .long) (bd_20 Z K F) := by
  unfold bd_20
  exact (sk_seq (sk_decl xk_p) (sk_seq (sk_scope (sk_seq (sk_deci xk_p) (sk_whl xk_p (sk_seq (sk_seq (sk_setl xk_p) (sk_setl xk_p)) sk_inc)))) (sk_seq (sk_scope (sk_seq (sk_deci xk_p) (sk_whl xk_p (sk_seq (sk_setl xk_p) sk_inc)))) (sk_retl xk_p))))
theorem sb_21 {Z : List ZD} {K : ZKt} {F : ZFt} (hK : kkk K) : sk (none) (bd_21 Z K F) := by
  unfold bd_21
  exact (sk_seq (sk_seq sk_upd (sk_seq (sk_put xk_p) (sk_seq (sk_put xk_p) (sk_seq (sk_put xk_p) (sk_seq (sk_scope (sk_seq (sk_deci xk_p) (sk_whl xk_p (sk_seq (sk_cv hK) sk_inc)))) (sk_cv hK)))))) sk_retv)
theorem sb_22 {Z : List ZD} {K : ZKt} {F : ZFt} (hK : kkk K) : sk (none) (bd_22 Z K F) := by
  unfold bd_22
  exact (sk_seq (sk_seq (sk_st xk_p xk_p) (sk_seq (sk_st xk_p xk_p) (sk_scope (sk_seq (sk_deci xk_p) (sk_whl xk_p (sk_seq (sk_seq (sk_st xk_p xk_p) (sk_if xk_p sk_stu sk_skip)) sk_inc)))))) sk_retv)
theorem sb_23 {Z : List ZD} {K : ZKt} {F : ZFt} (hK : kkk K) : sk (none) (bd_23 Z K F) := by
  unfold bd_23
  exact (sk_seq (sk_seq (sk_if xk_p sk_retv sk_skip) (sk_seq (sk_if xk_p sk_retv sk_skip) (sk_seq (sk_if xk_p (sk_seq (sk_put xk_p) (sk_seq sk_cpy sk_retv)) sk_skip) (sk_scope (sk_seq (sk_deci xk_p) (sk_whl xk_p (sk_seq (sk_seq (sk_st xk_p xk_p) (sk_seq (sk_scope (sk_seq (sk_deci xk_p) (sk_whl xk_p (sk_seq (sk_st xk_p xk_p) sk_inc)))) (sk_cv hK))) sk_inc))))))) sk_retv)
theorem sb_24 {Z : List ZD} {K : ZKt} {F : ZFt} (hK : kkk K) : sk (some .boolean) (bd_24 Z K F) := by
  unfold bd_24
  exact (sk_seq (sk_scope (sk_seq (sk_deci xk_p) (sk_whl xk_p (sk_seq (sk_if xk_p (sk_retz xk_p) sk_skip) sk_inc)))) (sk_retz xk_p))
theorem sb_25 {Z : List ZD} {K : ZKt} {F : ZFt} (hK : kkk K) : sk (some .int) (bd_25 Z K F) := by
  unfold bd_25
  exact (sk_reti xk_p)
theorem sb_26 {Z : List ZD} {K : ZKt} {F : ZFt} (hK : kkk K) : sk (some .int) (bd_26 Z K F) := by
  unfold bd_26
  exact (sk_seq (sk_if xk_p (sk_reti xk_p) sk_skip) (sk_seq (sk_st xk_p xk_p) (sk_reti xk_inc)))
theorem sb_27 {Z : List ZD} {K : ZKt} {F : ZFt} (hK : kkk K) : sk (some .int) (bd_27 Z K F) := by
  unfold bd_27
  exact (sk_seq (sk_deci xk_p) (sk_seq (sk_scope (sk_seq (sk_deci xk_p) (sk_whl xk_p (sk_seq (sk_if xk_p (sk_seti xk_p) sk_skip) sk_inc)))) (sk_reti xk_p)))
theorem sb_28 {Z : List ZD} {K : ZKt} {F : ZFt} (hK : kkk K) : sk (some .boolean) (bd_28 Z K F) := by
  unfold bd_28
  exact (sk_seq (sk_deci xk_p) (sk_retz xk_p))
theorem sb_29 {Z : List ZD} {K : ZKt} {F : ZFt} (hK : kkk K) : sk (some .int) (bd_29 Z K F) := by
  unfold bd_29
  exact (sk_seq (sk_deci xk_p) (sk_seq (sk_scope (sk_seq (sk_deci xk_p) (sk_whl xk_p (sk_seq (sk_if xk_p (sk_seti xk_p) sk_skip) sk_inc)))) (sk_reti xk_p)))
theorem sb_30 {Z : List ZD} {K : ZKt} {F : ZFt} (hK : kkk K) : sk (some .boolean) (bd_30 Z K F) := by
  unfold bd_30
  exact (sk_seq (sk_scope (sk_seq (sk_deci xk_p) (sk_whl xk_p (sk_seq (sk_if xk_p (sk_retz xk_p) sk_skip) sk_inc)))) (sk_retz xk_p))
theorem sb_31 {Z : List ZD} {K : ZKt} {F : ZFt} (hK : kkk K) : sk (some .boolean) (bd_31 Z K F) := by
  unfold bd_31
  exact (sk_seq (sk_decl xk_p) (sk_seq (sk_decl xk_p) (sk_seq (sk_scope (sk_seq (sk_deci xk_p) (sk_for xk_p sk_inc (sk_seq (sk_if xk_p sk_brk sk_skip) (sk_seq (sk_setl xk_p) (sk_setl xk_p)))))) (sk_retz xk_p))))
theorem sb_32 {Z : List ZD} {K : ZKt} {F : ZFt} (hK : kkk K) : sk (some .long) (bd_32 Z K F) := by
  unfold bd_32
  exact (sk_seq (sk_decl xk_p) (sk_seq (sk_scope (sk_seq (sk_deci xk_p) (sk_whl xk_p (sk_seq (sk_setl xk_p) sk_inc)))) (sk_retl xk_p)))
theorem sb_33 {Z : List ZD} {K : ZKt} {F : ZFt} (hK : kkk K) : sk (some .int) (bd_33 Z K F) := by
  unfold bd_33
  exact (sk_seq (sk_deci xk_p) (sk_seq (sk_if xk_p (sk_reti xk_p) sk_skip) (sk_seq (sk_if xk_p (sk_st xk_p xk_p) sk_skip) (sk_seq (sk_deci (xk_cs hK)) (sk_seq (sk_if xk_p (sk_st xk_p xk_p) sk_skip) (sk_seq (sk_st xk_p xk_p) (sk_reti xk_p)))))))
theorem sb_34 {Z : List ZD} {K : ZKt} {F : ZFt} (hK : kkk K) : sk (some .int) (bd_34 Z K F) := by
  unfold bd_34
  exact (sk_seq (sk_deci xk_p) (sk_seq (sk_scope (sk_seq (sk_deci xk_p) (sk_whl xk_p (sk_seq (sk_if xk_p sk_inc sk_skip) sk_inc)))) (sk_reti xk_p)))
theorem sb_35 {Z : List ZD} {K : ZKt} {F : ZFt} (hK : kkk K) : sk (some .boolean) (bd_35 Z K F) := by
  unfold bd_35
  exact (sk_seq (sk_deci xk_p) (sk_seq (sk_deci xk_p) (sk_seq (sk_scope (sk_seq (sk_deci xk_p) (sk_whl xk_p (sk_seq (sk_scope (sk_seq (sk_deci xk_p) (sk_seq (sk_if xk_p (sk_retz xk_p) sk_skip) (sk_seq (sk_deci xk_p) (sk_seq (sk_seti xk_p) (sk_seti xk_p)))))) sk_inc)))) (sk_retz xk_p))))
theorem sb_36 {Z : List ZD} {K : ZKt} {F : ZFt} (hK : kkk K) : sk (some .boolean) (bd_36 Z K F) := by
  unfold bd_36
  exact (sk_seq (sk_scope (sk_seq (sk_deci xk_p) (sk_whl xk_p (sk_seq (sk_if xk_p (sk_retz xk_p) sk_skip) sk_inc)))) (sk_retz xk_p))
theorem sb_37 {Z : List ZD} {K : ZKt} {F : ZFt} (hK : kkk K) : sk (some .int) (bd_37 Z K F) := by
  unfold bd_37
  exact (sk_seq (sk_deci xk_p) (sk_seq (sk_scope (sk_seq (sk_deci xk_p) (sk_whl xk_p (sk_seq (sk_if xk_p (sk_seti xk_p) sk_skip) sk_inc)))) (sk_reti xk_p)))
theorem sb_38 {Z : List ZD} {K : ZKt} {F : ZFt} (hK : kkk K) : sk (some .boolean) (be_38 Z K F) := by
  unfold be_38
  exact (sk_seq (sk_deci xk_p) (sk_seq (sk_scope (sk_seq (sk_deci xk_p) (sk_whl xk_p (sk_seq (sk_scope (sk_seq (sk_deci xk_p) (sk_whl xk_p (sk_seq (sk_scope (sk_seq (sk_deci xk_p) (sk_forT xk_p sk_inc (sk_seq (sk_deci xk_p) (sk_seq (sk_if (xk_or xk_p (xk_not (xk_nz (xk_cv hK)))) sk_brk sk_skip) (sk_seq (sk_put xk_p) (sk_seq (sk_put xk_p) (sk_seq (sk_put xk_p) (sk_retz xk_p))))))))) sk_inc)))) sk_inc)))) (sk_retz xk_p)))
theorem sb_39 {Z : List ZD} {K : ZKt} {F : ZFt} (hK : kkk K) : sk (some .boolean) (bd_39 Z K F) := by
  unfold bd_39
  exact (sk_seq (sk_if xk_p (sk_retz xk_p) sk_skip) (sk_seq (sk_cv hK) (sk_seq (sk_deci xk_p) (sk_seq (sk_cv hK) (sk_retz xk_p)))))
theorem sb_40 {Z : List ZD} {K : ZKt} {F : ZFt} (hK : kkk K) : sk (none) (bd_40 Z K F) := by
  unfold bd_40
  exact (sk_seq (sk_seq (sk_deci xk_p) (sk_seq (sk_st xk_p xk_p) (sk_st xk_p xk_p))) sk_retv)
theorem sb_41 {Z : List ZD} {K : ZKt} {F : ZFt} (hK : kkk K) : sk (some .int) (bd_41 Z K F) := by
  unfold bd_41
  exact (sk_seq (sk_deci xk_p) (sk_seq (sk_scope (sk_seq (sk_deci xk_p) (sk_whl xk_p (sk_seq (sk_seq (sk_st xk_p xk_p) (sk_if xk_p (sk_seti xk_p) sk_skip)) sk_inc)))) (sk_seq (sk_deci xk_p) (sk_seq (sk_scope (sk_seq (sk_deci xk_p) (sk_for xk_p sk_inc (sk_seq (sk_if (xk_or xk_p xk_p) sk_brk sk_skip) (sk_if xk_p (sk_seti xk_p) sk_skip))))) (sk_reti xk_p)))))
theorem sb_42 {Z : List ZD} {K : ZKt} {F : ZFt} (hK : kkk K) : sk (some .boolean) (bd_42 Z K F) := by
  unfold bd_42
  exact (sk_seq (sk_scope (sk_seq (sk_deci xk_p) (sk_whl xk_p (sk_seq (sk_if xk_p (sk_retz xk_p) sk_skip) sk_inc)))) (sk_retz xk_p))
theorem sb_43 {Z : List ZD} {K : ZKt} {F : ZFt} (hK : kkk K) : sk (some .int) (bd_43 Z K F) := by
  unfold bd_43
  exact (sk_seq (sk_deci xk_p) (sk_seq (sk_scope (sk_seq (sk_decr xk_p) (sk_seq (sk_deci xk_p) (sk_seq (sk_deci xk_p) (sk_whl xk_p (sk_seq (sk_scope (sk_seq (sk_deci xk_p) (sk_if xk_p (sk_seti xk_p) sk_skip))) sk_inc)))))) (sk_reti xk_p)))
theorem sb_44 {Z : List ZD} {K : ZKt} {F : ZFt} (hK : kkk K) : sk (some .int) (bd_44 Z K F) := by
  unfold bd_44
  exact (sk_seq (sk_deci xk_p) (sk_seq (sk_scope (sk_seq (sk_deci xk_p) (sk_whl xk_p (sk_seq (sk_if xk_p (sk_seti xk_p) sk_skip) sk_inc)))) (sk_reti xk_p)))
theorem sb_45 {Z : List ZD} {K : ZKt} {F : ZFt} (hK : kkk K) : sk (some .long) (bd_45 Z K F) := by
  unfold bd_45
  exact (sk_seq (sk_decl xk_p) (sk_seq (sk_scope (sk_seq (sk_deci xk_p) (sk_whl xk_p (sk_seq (sk_setl xk_p) sk_inc)))) (sk_retl xk_p)))
theorem sb_46 {Z : List ZD} {K : ZKt} {F : ZFt} (hK : kkk K) : sk (some .int) (bd_46 Z K F) := by
  unfold bd_46
  exact (sk_seq (sk_if xk_p (sk_reti xk_p) sk_skip) (sk_seq (sk_st xk_p xk_p) (sk_seq (sk_st xk_p xk_p) (sk_seq (sk_deci xk_p) (sk_seq (sk_scope (sk_seq (sk_deci xk_p) (sk_whl xk_p (sk_seq (sk_seq (sk_st xk_p xk_p) (sk_seti xk_p)) sk_inc)))) (sk_seq (sk_st xk_p xk_p) (sk_reti xk_inc)))))))
theorem sb_47 {Z : List ZD} {K : ZKt} {F : ZFt} (hK : kkk K) : sk (none) (bd_47 Z K F) := by
  unfold bd_47
  exact (sk_seq (sk_seq sk_upd (sk_seq (sk_put xk_p) (sk_seq (sk_put xk_p) (sk_cv hK)))) sk_retv)
theorem sb_48 {Z : List ZD} {K : ZKt} {F : ZFt} (hK : kkk K) : sk (none) (be_48 Z K F) := by
  unfold be_48
  exact (sk_seq (sk_seq (sk_if xk_p sk_retv sk_skip) (sk_seq (sk_if xk_p (sk_seq (sk_put xk_p) (sk_seq sk_cpy sk_retv)) sk_skip) (sk_scope (sk_seq (sk_deci xk_p) (sk_forT xk_p sk_inc (sk_scope (sk_seq (sk_deci xk_p) (sk_seq (sk_if (xk_or xk_p xk_p) sk_brk sk_skip) (sk_seq (sk_st xk_p xk_p) (sk_if xk_p (sk_cv hK) sk_skip)))))))))) sk_retv)
theorem sb_49 {Z : List ZD} {K : ZKt} {F : ZFt} (hK : kkk K) : sk (some .boolean) (be_49 Z K F) := by
  unfold be_49
  exact (sk_seq (sk_deci xk_p) (sk_seq (sk_scope (sk_seq (sk_deci xk_p) (sk_forT xk_p sk_inc (sk_scope (sk_seq (sk_deci xk_p) (sk_seq (sk_if (xk_or xk_p xk_p) sk_brk sk_skip) (sk_seq (sk_seti xk_p) (sk_if xk_p (sk_retz xk_p) sk_skip)))))))) (sk_retz xk_p)))
theorem sb_50 {Z : List ZD} {K : ZKt} {F : ZFt} (hK : kkk K) : sk (some .int) (bd_50 Z K F) := by
  unfold bd_50
  exact (sk_reti xk_p)
theorem sb_51 {Z : List ZD} {K : ZKt} {F : ZFt} (hK : kkk K) : sk (some .int) (bd_51 Z K F) := by
  unfold bd_51
  exact (sk_seq (sk_deci xk_p) (sk_seq (sk_if xk_p (sk_reti xk_p) sk_skip) (sk_seq (sk_deci xk_p) (sk_seq (sk_scope (sk_seq (sk_deci xk_p) (sk_for xk_p sk_inc (sk_seq (sk_if xk_p (sk_seti xk_p) sk_skip) (sk_if xk_p sk_brk sk_skip))))) (sk_reti xk_p)))))
theorem sb_52 {Z : List ZD} {K : ZKt} {F : ZFt} (hK : kkk K) : sk (some .int) (bd_52 Z K F) := by
  unfold bd_52
  exact (sk_reti xk_p)
theorem sb_53 {Z : List ZD} {K : ZKt} {F : ZFt} (hK : kkk K) : sk (some .long) (bd_53 Z K F) := by
  unfold bd_53
  exact (sk_seq (sk_decl xk_p) (sk_seq (sk_scope (sk_seq (sk_deci xk_p) (sk_whl xk_p (sk_seq (sk_setl xk_p) sk_inc)))) (sk_retl xk_p)))
theorem sb_54 {Z : List ZD} {K : ZKt} {F : ZFt} (hK : kkk K) : sk (none) (bd_54 Z K F) := by
  unfold bd_54
  exact (sk_seq (sk_if xk_p (sk_st xk_inc xk_p) sk_skip) sk_retv)
theorem sb_55 {Z : List ZD} {K : ZKt} {F : ZFt} (hK : kkk K) : sk (none) (bd_55 Z K F) := by
  unfold bd_55
  exact (sk_seq (sk_seq (sk_put xk_p) (sk_seq (sk_put xk_p) (sk_seq (sk_put xk_p) (sk_seq (sk_scope (sk_seq (sk_deci xk_p) (sk_whl xk_p (sk_seq (sk_if (xk_not (xk_nz (xk_cv hK))) sk_retv sk_skip) sk_inc)))) (sk_seq (sk_if (xk_or (xk_or xk_p (xk_not (xk_nz (xk_cv hK)))) (xk_not (xk_nz (xk_cv hK)))) sk_retv sk_skip) (sk_seq (sk_put xk_p) (sk_seq (sk_if (xk_or (xk_not (xk_nz (xk_cv hK))) (xk_not (xk_nz (xk_cv hK)))) sk_retv sk_skip) (sk_seq (sk_put xk_p) (sk_put xk_p))))))))) sk_retv)
theorem sb_56 {Z : List ZD} {K : ZKt} {F : ZFt} (hK : kkk K) : sk (some .boolean) (bd_56 Z K F) := by
  unfold bd_56
  exact (sk_retz xk_p)
theorem sb_57 {Z : List ZD} {K : ZKt} {F : ZFt} (hK : kkk K) : sk (some .boolean) (bd_57 Z K F) := by
  unfold bd_57
  exact (sk_retz xk_p)
theorem sb_58 {Z : List ZD} {K : ZKt} {F : ZFt} (hK : kkk K) : sk (some .boolean) (bd_58 Z K F) := by
  unfold bd_58
  exact (sk_seq (sk_if xk_p (sk_retz xk_p) sk_skip) (sk_seq sk_upd (sk_retz xk_p)))
theorem sb_59 {Z : List ZD} {K : ZKt} {F : ZFt} (hK : kkk K) : sk (some .boolean) (bd_59 Z K F) := by
  unfold bd_59
  exact (sk_seq (sk_deci xk_p) (sk_seq sk_upd (sk_seq (sk_if xk_p (sk_retz xk_p) sk_skip) (sk_seq (sk_st xk_p xk_p) (sk_seq (sk_st xk_p xk_p) (sk_seq sk_upd (sk_seq sk_upd (sk_retz xk_p))))))))
theorem sb_60 {Z : List ZD} {K : ZKt} {F : ZFt} (hK : kkk K) : sk (some .boolean) (bd_60 Z K F) := by
  unfold bd_60
  exact (sk_seq (sk_deci (xk_cv hK)) (sk_seq (sk_deci xk_p) (sk_seq (sk_deci xk_p) (sk_seq (sk_whl xk_p (sk_seq (sk_seq (sk_seti xk_p) sk_upd) sk_inc)) (sk_seq (sk_put xk_p) (sk_retz xk_p))))))
theorem sb_61 {Z : List ZD} {K : ZKt} {F : ZFt} (hK : kkk K) : sk (some .long) (bd_61 Z K F) := by
  unfold bd_61
  exact (sk_retl xk_p)
theorem sb_62 {Z : List ZD} {K : ZKt} {F : ZFt} (hK : kkk K) : sk (none) (bd_62 Z K F) := by
  unfold bd_62
  exact (sk_seq (sk_seq (sk_put xk_p) (sk_seq (sk_put xk_p) (sk_seq (sk_cs hK) (sk_seq (sk_cs hK) (sk_seq sk_cpy (sk_scope (sk_seq (sk_deci xk_p) (sk_for xk_p sk_inc (sk_seq (sk_if (xk_or xk_p xk_p) sk_brk sk_skip) (sk_scope (sk_seq (sk_deci xk_p) (sk_for xk_p sk_inc (sk_seq (sk_if (xk_or xk_p xk_p) sk_brk sk_skip) (sk_seq (sk_if xk_p sk_brk sk_skip) (sk_if xk_p sk_stu sk_skip))))))))))))))) sk_retv)
theorem sb_63 {Z : List ZD} {K : ZKt} {F : ZFt} (hK : kkk K) : sk (none) (be_63 Z K F) := by
  unfold be_63
  exact (sk_seq (sk_seq (sk_scope (sk_seq (sk_deci xk_p) (sk_for xk_p sk_inc (sk_if (xk_not (xk_nz (xk_cv hK))) sk_brk sk_skip)))) (sk_seq (sk_deci xk_p) (sk_scope (sk_seq (sk_deci xk_p) (sk_whl xk_p (sk_seq (sk_if xk_p (sk_seti (xk_b (xk_cv hK))) sk_skip) sk_inc)))))) sk_retv)
theorem sb_64 {Z : List ZD} {K : ZKt} {F : ZFt} (hK : kkk K) : sk (some .int) (bd_64 Z K F) := by
  unfold bd_64
  exact (sk_seq (sk_scope (sk_seq (sk_deci xk_p) (sk_for xk_p sk_inc (sk_seq (sk_if (xk_or xk_p xk_p) sk_brk sk_skip) (sk_if (xk_or xk_p (xk_nz (xk_cv hK))) (sk_reti xk_p) sk_skip))))) (sk_reti xk_p))
theorem sb_65 {Z : List ZD} {K : ZKt} {F : ZFt} (hK : kkk K) : sk (some .boolean) (bd_65 Z K F) := by
  unfold bd_65
  exact (sk_seq (sk_deci xk_p) (sk_seq (sk_deci xk_p) (sk_seq sk_cpy (sk_seq (sk_if xk_p (sk_st xk_p xk_p) sk_skip) (sk_seq (sk_if xk_p (sk_st xk_p xk_p) sk_skip) (sk_seq (sk_st xk_p xk_p) (sk_seq (sk_st xk_p xk_p) (sk_seq (sk_if xk_p (sk_retz xk_p) sk_skip) (sk_seq (sk_if (xk_nz (xk_cv hK)) (sk_retz xk_p) sk_skip) (sk_seq sk_cpy (sk_retz xk_p)))))))))))
theorem sb_66 {Z : List ZD} {K : ZKt} {F : ZFt} (hK : kkk K) : sk (some .boolean) (bd_66 Z K F) := by
  unfold bd_66
  exact (sk_seq (sk_deci (xk_cv hK)) (sk_seq (sk_deci xk_p) (sk_seq (sk_scope (sk_seq (sk_deci xk_p) (sk_whl xk_p (sk_seq (sk_scope (sk_seq (sk_deci xk_p) (sk_seq (sk_deci xk_p) (sk_seq (sk_scope (sk_seq (sk_deci xk_p) (sk_for xk_p sk_inc (sk_seq (sk_if xk_p sk_brk sk_skip) (sk_seq (sk_st xk_p xk_p) (sk_seq (sk_if xk_p (sk_seq (sk_cv hK) (sk_retz xk_p)) sk_skip) (sk_if xk_p (sk_st xk_incl xk_p) sk_skip))))))) (sk_seti xk_p))))) sk_inc)))) (sk_retz xk_p))))
theorem sb_67 {Z : List ZD} {K : ZKt} {F : ZFt} (hK : kkk K) : sk (some .int) (bd_67 Z K F) := by
  unfold bd_67
  exact (sk_seq (sk_deci xk_p) (sk_seq (sk_scope (sk_seq (sk_deci xk_p) (sk_whl xk_p (sk_seq (sk_scope (sk_seq (sk_deci xk_p) (sk_if xk_p (sk_st xk_incl xk_p) sk_skip))) sk_inc)))) (sk_reti xk_p)))
theorem sb_68 {Z : List ZD} {K : ZKt} {F : ZFt} (hK : kkk K) : sk (none) (bd_68 Z K F) := by
  unfold bd_68
  exact (sk_seq (sk_seq (sk_deci xk_p) (sk_scope (sk_seq (sk_deci xk_p) (sk_whl xk_p (sk_seq (sk_scope (sk_seq (sk_deci xk_p) (sk_seq (sk_deci xk_p) (sk_seq (sk_st xk_p xk_p) (sk_seq (sk_st xk_p xk_p) (sk_seti xk_p)))))) sk_inc))))) sk_retv)
theorem sb_69 {Z : List ZD} {K : ZKt} {F : ZFt} (hK : kkk K) : sk (some .int) (bd_69 Z K F) := by
  unfold bd_69
  exact (sk_seq (sk_deci xk_p) (sk_seq (sk_scope (sk_seq (sk_deci xk_p) (sk_whl xk_p (sk_seq (sk_if xk_p sk_inc sk_skip) sk_inc)))) (sk_reti xk_p)))
theorem sb_70 {Z : List ZD} {K : ZKt} {F : ZFt} (hK : kkk K) : sk (some .int) (bd_70 Z K F) := by
  unfold bd_70
  exact (sk_reti xk_p)
theorem sb_71 {Z : List ZD} {K : ZKt} {F : ZFt} (hK : kkk K) : sk (some .int) (bd_71 Z K F) := by
  unfold bd_71
  exact (sk_seq (sk_if xk_p (sk_reti xk_p) sk_skip) (sk_seq (sk_st xk_p xk_p) (sk_reti xk_pre)))
theorem sb_72 {Z : List ZD} {K : ZKt} {F : ZFt} (hK : kkk K) : sk (some .int) (bd_72 Z K F) := by
  unfold bd_72
  exact (sk_seq (sk_deci xk_p) (sk_seq (sk_deci xk_p) (sk_seq (sk_scope (sk_seq (sk_deci xk_p) (sk_for xk_p sk_inc (sk_seq (sk_if xk_p sk_brk sk_skip) (sk_if xk_p sk_inc sk_skip))))) (sk_reti xk_p))))
theorem sb_73 {Z : List ZD} {K : ZKt} {F : ZFt} (hK : kkk K) : sk (some .int) (bd_73 Z K F) := by
  unfold bd_73
  exact (sk_seq (sk_deci xk_p) (sk_seq (sk_deci xk_p) (sk_seq (sk_scope (sk_seq (sk_deci xk_p) (sk_whl xk_p (sk_seq (sk_seq (sk_seti xk_p) (sk_if xk_p (sk_seti xk_p) sk_skip)) sk_inc)))) (sk_reti xk_p))))
theorem sb_74 {Z : List ZD} {K : ZKt} {F : ZFt} (hK : kkk K) : sk (some .long) (bd_74 Z K F) := by
  unfold bd_74
  exact (sk_retl xk_p)
theorem sb_75 {Z : List ZD} {K : ZKt} {F : ZFt} (hK : kkk K) : sk (some .int) (bd_75 Z K F) := by
  unfold bd_75
  exact (sk_seq (sk_deci xk_p) (sk_seq (sk_if xk_p (sk_reti xk_p) sk_skip) (sk_seq (sk_st xk_p xk_p) (sk_seq (sk_st xk_p xk_p) (sk_reti xk_p)))))
theorem sb_76 {Z : List ZD} {K : ZKt} {F : ZFt} (hK : kkk K) : sk (some .int) (bd_76 Z K F) := by
  unfold bd_76
  exact (sk_seq (sk_deci xk_p) (sk_seq (sk_deci xk_p) (sk_seq (sk_scope (sk_seq (sk_deci xk_p) (sk_whl xk_p (sk_seq (sk_scope (sk_seq (sk_deci xk_p) (sk_seq (sk_deci xk_p) (sk_if xk_p (sk_seti xk_p) sk_skip)))) sk_inc)))) (sk_reti xk_p))))
theorem sb_77 {Z : List ZD} {K : ZKt} {F : ZFt} (hK : kkk K) : sk (some .int) (bd_77 Z K F) := by
  unfold bd_77
  exact (sk_seq (sk_deci xk_p) (sk_seq (sk_scope (sk_seq (sk_deci xk_p) (sk_whl xk_p (sk_seq (sk_if xk_p sk_inc sk_skip) sk_inc)))) (sk_reti xk_p)))
theorem sb_78 {Z : List ZD} {K : ZKt} {F : ZFt} (hK : kkk K) : sk (some .long) (bd_78 Z K F) := by
  unfold bd_78
  exact (sk_seq (sk_decl xk_p) (sk_seq (sk_scope (sk_seq (sk_deci xk_p) (sk_whl xk_p (sk_seq (sk_seq (sk_setl xk_p) (sk_seq (sk_scope (sk_seq (sk_deci xk_p) (sk_whl xk_p (sk_seq (sk_setl xk_p) sk_inc)))) (sk_setl xk_p))) sk_inc)))) (sk_retl xk_p)))
theorem sb_79 {Z : List ZD} {K : ZKt} {F : ZFt} (hK : kkk K) : sk (some .int) (bd_79 Z K F) := by
  unfold bd_79
  exact (sk_seq (sk_if xk_p (sk_reti xk_p) sk_skip) (sk_seq (sk_st xk_p xk_p) (sk_seq (sk_st xk_p xk_p) (sk_seq (sk_st xk_p xk_p) (sk_seq (sk_st xk_p xk_p) (sk_reti xk_inc))))))
theorem sb_80 {Z : List ZD} {K : ZKt} {F : ZFt} (hK : kkk K) : sk (some .boolean) (bd_80 Z K F) := by
  unfold bd_80
  exact (sk_seq (sk_scope (sk_seq (sk_deci xk_p) (sk_whl xk_p (sk_seq (sk_if xk_p (sk_retz xk_p) sk_skip) sk_inc)))) (sk_retz xk_p))
theorem sb_81 {Z : List ZD} {K : ZKt} {F : ZFt} (hK : kkk K) : sk (some .boolean) (bd_81 Z K F) := by
  unfold bd_81
  exact (sk_retz xk_p)
theorem sb_82 {Z : List ZD} {K : ZKt} {F : ZFt} (hK : kkk K) : sk (some .int) (bd_82 Z K F) := by
  unfold bd_82
  exact (sk_seq (sk_deci xk_p) (sk_seq (sk_if xk_p (sk_reti xk_p) sk_skip) (sk_seq (sk_st xk_p xk_p) (sk_seq (sk_st xk_p xk_p) (sk_seq (sk_st xk_p xk_p) (sk_seq sk_upd (sk_seq (sk_cv hK) (sk_reti xk_p))))))))
theorem sb_83 {Z : List ZD} {K : ZKt} {F : ZFt} (hK : kkk K) : sk (none) (bd_83 Z K F) := by
  unfold bd_83
  exact (sk_seq (sk_seq (sk_deci xk_p) (sk_seq (sk_st xk_p xk_p) (sk_st xk_p xk_p))) sk_retv)
theorem sb_84 {Z : List ZD} {K : ZKt} {F : ZFt} (hK : kkk K) : sk (some .int) (bd_84 Z K F) := by
  unfold bd_84
  exact (sk_seq (sk_deci xk_p) (sk_seq (sk_if xk_p (sk_reti xk_p) sk_skip) (sk_seq (sk_if xk_p (sk_reti xk_p) sk_skip) (sk_seq (sk_if xk_p (sk_reti xk_p) sk_skip) (sk_seq (sk_if xk_p (sk_reti xk_p) sk_skip) (sk_reti xk_p))))))
theorem sb_85 {Z : List ZD} {K : ZKt} {F : ZFt} (hK : kkk K) : sk (some .boolean) (bd_85 Z K F) := by
  unfold bd_85
  exact (sk_retz xk_p)
theorem sb_86 {Z : List ZD} {K : ZKt} {F : ZFt} (hK : kkk K) : sk (some .int) (bd_86 Z K F) := by
  unfold bd_86
  exact (sk_seq (sk_deci xk_p) (sk_seq (sk_scope (sk_seq (sk_deci xk_p) (sk_whl xk_p (sk_seq (sk_if xk_p (sk_seti xk_p) sk_skip) sk_inc)))) (sk_reti xk_p)))
theorem sb_87 {Z : List ZD} {K : ZKt} {F : ZFt} (hK : kkk K) : sk (some .int) (bd_87 Z K F) := by
  unfold bd_87
  exact (sk_seq (sk_deci xk_p) (sk_seq (sk_scope (sk_seq (sk_deci xk_p) (sk_whl xk_p (sk_seq (sk_if xk_p (sk_seti xk_p) sk_skip) sk_inc)))) (sk_reti xk_p)))
theorem sb_88 {Z : List ZD} {K : ZKt} {F : ZFt} (hK : kkk K) : sk (some .long) (bd_88 Z K F) := by
  unfold bd_88
  exact (sk_seq (sk_decl xk_p) (sk_seq (sk_scope (sk_seq (sk_deci xk_p) (sk_whl xk_p (sk_seq (sk_seq (sk_setl xk_p) (sk_setl xk_p)) sk_inc)))) (sk_retl xk_p)))
theorem sb_89 {Z : List ZD} {K : ZKt} {F : ZFt} (hK : kkk K) : sk (some .int) (bd_89 Z K F) := by
  unfold bd_89
  exact (sk_seq (sk_if xk_p (sk_reti xk_p) sk_skip) (sk_seq (sk_if xk_p (sk_reti xk_p) sk_skip) (sk_seq (sk_if xk_p (sk_reti xk_p) sk_skip) (sk_reti (xk_cs hK)))))
theorem sb_90 {Z : List ZD} {K : ZKt} {F : ZFt} (hK : kkk K) : sk (some .int) (bd_90 Z K F) := by
  unfold bd_90
  exact (sk_seq (sk_if xk_p (sk_reti xk_p) sk_skip) (sk_seq (sk_if xk_p (sk_reti xk_p) sk_skip) (sk_reti xk_p)))
theorem sb_91 {Z : List ZD} {K : ZKt} {F : ZFt} (hK : kkk K) : sk (some .int) (bd_91 Z K F) := by
  unfold bd_91
  exact (sk_seq (sk_if xk_p (sk_reti xk_p) sk_skip) (sk_reti xk_p))
theorem sb_92 {Z : List ZD} {K : ZKt} {F : ZFt} (hK : kkk K) : sk (some .int) (bd_92 Z K F) := by
  unfold bd_92
  exact (sk_seq (sk_if xk_p (sk_reti xk_p) sk_skip) (sk_seq (sk_if xk_p (sk_reti xk_p) sk_skip) (sk_reti (xk_cs hK))))
theorem sb_93 {Z : List ZD} {K : ZKt} {F : ZFt} (hK : kkk K) : sk (some .int) (bd_93 Z K F) := by
  unfold bd_93
  exact (sk_seq (sk_if xk_p (sk_reti xk_p) sk_skip) (sk_reti xk_p))
theorem sb_94 {Z : List ZD} {K : ZKt} {F : ZFt} (hK : kkk K) : sk (some .int) (bd_94 Z K F) := by
  unfold bd_94
  exact (sk_seq (sk_if xk_p (sk_reti xk_p) sk_skip) (sk_seq (sk_if xk_p (sk_reti xk_p) sk_skip) (sk_reti (xk_cs hK))))
theorem sb_95 {Z : List ZD} {K : ZKt} {F : ZFt} (hK : kkk K) : sk (some .int) (bd_95 Z K F) := by
  unfold bd_95
  exact (sk_seq (sk_deci xk_p) (sk_seq (sk_if xk_p (sk_reti xk_p) sk_skip) (sk_seq (sk_if xk_p (sk_reti xk_p) sk_skip) (sk_seq (sk_scope (sk_seq (sk_deci xk_p) (sk_whl xk_p (sk_seq (sk_cv hK) sk_inc)))) (sk_reti xk_p)))))
theorem sb_96 {Z : List ZD} {K : ZKt} {F : ZFt} (hK : kkk K) : sk (some .int) (bd_96 Z K F) := by
  unfold bd_96
  exact (sk_seq (sk_deci xk_p) (sk_seq (sk_put xk_p) (sk_reti xk_p)))
theorem sb_97 {Z : List ZD} {K : ZKt} {F : ZFt} (hK : kkk K) : sk (some .int) (bd_97 Z K F) := by
  unfold bd_97
  exact (sk_seq (sk_cv hK) (sk_reti xk_p))
theorem sb_98 {Z : List ZD} {K : ZKt} {F : ZFt} (hK : kkk K) : sk (some .int) (bd_98 Z K F) := by
  unfold bd_98
  exact (sk_seq (sk_cv hK) (sk_seq (sk_if xk_p (sk_reti xk_p) sk_skip) (sk_seq (sk_if xk_p (sk_reti xk_p) sk_skip) (sk_seq (sk_if xk_p (sk_reti xk_p) sk_skip) (sk_seq (sk_cv hK) (sk_seq (sk_put xk_p) (sk_reti xk_p)))))))
theorem sb_99 {Z : List ZD} {K : ZKt} {F : ZFt} (hK : kkk K) : sk (some .int) (bd_99 Z K F) := by
  unfold bd_99
  exact (sk_seq (sk_if xk_p (sk_reti xk_p) sk_skip) (sk_seq (sk_if xk_p (sk_reti xk_p) sk_skip) (sk_reti xk_p)))
theorem sb_100 {Z : List ZD} {K : ZKt} {F : ZFt} (hK : kkk K) : sk (some .long) (bd_100 Z K F) := by
  unfold bd_100
  exact (sk_seq (sk_if xk_p (sk_retl xk_p) sk_skip) (sk_retl (xk_cv hK)))
theorem sb_101 {Z : List ZD} {K : ZKt} {F : ZFt} (hK : kkk K) : sk (some .int) (bd_101 Z K F) := by
  unfold bd_101
  exact (sk_seq (sk_if xk_p (sk_reti xk_p) sk_skip) (sk_seq (sk_if xk_p (sk_reti xk_p) sk_skip) (sk_seq (sk_if xk_p (sk_reti xk_p) sk_skip) (sk_seq (sk_cv hK) (sk_reti xk_p)))))
theorem sb_102 {Z : List ZD} {K : ZKt} {F : ZFt} (hK : kkk K) : sk (some .int) (bd_102 Z K F) := by
  unfold bd_102
  exact (sk_seq (sk_if xk_p (sk_reti xk_p) sk_skip) (sk_seq (sk_if xk_p (sk_reti xk_p) sk_skip) (sk_seq (sk_if xk_p (sk_reti xk_p) sk_skip) (sk_reti (xk_cv hK)))))
theorem sb_103 {Z : List ZD} {K : ZKt} {F : ZFt} (hK : kkk K) : sk (some .int) (bd_103 Z K F) := by
  unfold bd_103
  exact (sk_seq (sk_if xk_p (sk_reti xk_p) sk_skip) (sk_seq (sk_if xk_p (sk_reti xk_p) sk_skip) (sk_seq (sk_if xk_p (sk_reti xk_p) sk_skip) (sk_reti (xk_cv hK)))))
theorem sb_104 {Z : List ZD} {K : ZKt} {F : ZFt} (hK : kkk K) : sk (some .int) (bd_104 Z K F) := by
  unfold bd_104
  exact (sk_seq (sk_if xk_p (sk_reti xk_p) sk_skip) (sk_seq (sk_if xk_p (sk_reti xk_p) sk_skip) (sk_reti xk_p)))
theorem sb_105 {Z : List ZD} {K : ZKt} {F : ZFt} (hK : kkk K) : sk (some .int) (bd_105 Z K F) := by
  unfold bd_105
  exact (sk_seq (sk_if xk_p (sk_reti xk_p) sk_skip) (sk_seq (sk_if xk_p (sk_reti xk_p) sk_skip) (sk_seq (sk_if xk_p (sk_reti xk_p) sk_skip) (sk_seq (sk_cv hK) (sk_seq (sk_cv hK) (sk_seq (sk_if xk_p (sk_reti xk_p) sk_skip) (sk_reti xk_p)))))))
theorem sb_106 {Z : List ZD} {K : ZKt} {F : ZFt} (hK : kkk K) : sk (some .int) (bd_106 Z K F) := by
  unfold bd_106
  exact (sk_seq (sk_if xk_p (sk_reti xk_p) sk_skip) (sk_reti (xk_cv hK)))
theorem sb_107 {Z : List ZD} {K : ZKt} {F : ZFt} (hK : kkk K) : sk (some .int) (bd_107 Z K F) := by
  unfold bd_107
  exact (sk_seq (sk_if xk_p (sk_reti xk_p) sk_skip) (sk_reti xk_p))
theorem sb_108 {Z : List ZD} {K : ZKt} {F : ZFt} (hK : kkk K) : sk (some .int) (bd_108 Z K F) := by
  unfold bd_108
  exact (sk_seq (sk_if xk_p (sk_reti xk_p) sk_skip) (sk_reti xk_p))
theorem sb_109 {Z : List ZD} {K : ZKt} {F : ZFt} (hK : kkk K) : sk (some .int) (bd_109 Z K F) := by
  unfold bd_109
  exact (sk_reti xk_p)
theorem sb_110 {Z : List ZD} {K : ZKt} {F : ZFt} (hK : kkk K) : sk (some .int) (bd_110 Z K F) := by
  unfold bd_110
  exact (sk_seq (sk_if xk_p (sk_reti xk_p) sk_skip) (sk_seq (sk_if (xk_not (xk_nz (xk_cv hK))) (sk_reti xk_p) sk_skip) (sk_seq (sk_if xk_p (sk_reti xk_p) sk_skip) (sk_reti xk_p))))
theorem sb_111 {Z : List ZD} {K : ZKt} {F : ZFt} (hK : kkk K) : sk (some .int) (bd_111 Z K F) := by
  unfold bd_111
  exact (sk_seq (sk_if xk_p (sk_reti xk_p) sk_skip) (sk_seq (sk_if xk_p (sk_reti xk_p) sk_skip) (sk_reti (xk_cs hK))))
theorem sb_112 {Z : List ZD} {K : ZKt} {F : ZFt} (hK : kkk K) : sk (some .int) (bd_112 Z K F) := by
  unfold bd_112
  exact (sk_reti (xk_cv hK))
theorem sb_113 {Z : List ZD} {K : ZKt} {F : ZFt} (hK : kkk K) : sk (some .int) (bd_113 Z K F) := by
  unfold bd_113
  exact (sk_seq (sk_deci (xk_cv hK)) (sk_reti xk_p))
theorem sb_114 {Z : List ZD} {K : ZKt} {F : ZFt} (hK : kkk K) : sk (some .int) (bd_114 Z K F) := by
  unfold bd_114
  exact (sk_seq (sk_if xk_p (sk_reti xk_p) sk_skip) (sk_seq (sk_if xk_p (sk_reti xk_p) sk_skip) (sk_reti (xk_cs hK))))
theorem sb_115 {Z : List ZD} {K : ZKt} {F : ZFt} (hK : kkk K) : sk (some .int) (bd_115 Z K F) := by
  unfold bd_115
  exact (sk_seq (sk_if xk_p (sk_reti xk_p) sk_skip) (sk_seq (sk_if xk_p (sk_reti xk_p) sk_skip) (sk_seq (sk_if xk_p (sk_reti xk_p) sk_skip) (sk_seq (sk_st xk_p xk_p) (sk_reti (xk_cs hK))))))
theorem sb_116 {Z : List ZD} {K : ZKt} {F : ZFt} (hK : kkk K) : sk (some .int) (bd_116 Z K F) := by
  unfold bd_116
  exact (sk_seq (sk_if xk_p (sk_reti xk_p) sk_skip) (sk_seq (sk_if xk_p (sk_reti xk_p) sk_skip) (sk_seq (sk_if xk_p (sk_reti xk_p) sk_skip) (sk_reti (xk_cv hK)))))
theorem sb_117 {Z : List ZD} {K : ZKt} {F : ZFt} (hK : kkk K) : sk (some .int) (bd_117 Z K F) := by
  unfold bd_117
  exact (sk_seq (sk_if xk_p (sk_reti xk_p) sk_skip) (sk_seq (sk_deci xk_p) (sk_seq (sk_deci xk_p) (sk_seq (sk_if xk_p (sk_reti xk_p) sk_skip) (sk_seq (sk_if xk_p (sk_reti xk_p) sk_skip) (sk_seq (sk_cv hK) (sk_seq (sk_if xk_p (sk_reti xk_p) sk_skip) (sk_reti xk_p))))))))
theorem sb_118 {Z : List ZD} {K : ZKt} {F : ZFt} (hK : kkk K) : sk (some .int) (bd_118 Z K F) := by
  unfold bd_118
  exact (sk_seq (sk_if xk_p (sk_reti xk_p) sk_skip) (sk_seq (sk_if xk_p (sk_reti xk_p) sk_skip) (sk_seq (sk_if xk_p (sk_reti xk_p) sk_skip) (sk_reti (xk_cv hK)))))
theorem sb_119 {Z : List ZD} {K : ZKt} {F : ZFt} (hK : kkk K) : sk (some .int) (bd_119 Z K F) := by
  unfold bd_119
  exact (sk_seq (sk_if xk_p (sk_reti xk_p) sk_skip) (sk_seq (sk_if xk_p (sk_reti xk_p) sk_skip) (sk_reti xk_p)))
theorem sb_120 {Z : List ZD} {K : ZKt} {F : ZFt} (hK : kkk K) : sk (some .int) (bd_120 Z K F) := by
  unfold bd_120
  exact (sk_seq (sk_if xk_p (sk_reti xk_p) sk_skip) (sk_seq (sk_if xk_p (sk_reti xk_p) sk_skip) (sk_reti (xk_cv hK))))
theorem sb_121 {Z : List ZD} {K : ZKt} {F : ZFt} (hK : kkk K) : sk (some .int) (bd_121 Z K F) := by
  unfold bd_121
  exact (sk_seq (sk_if xk_p (sk_reti xk_p) sk_skip) (sk_seq (sk_if xk_p (sk_reti xk_p) sk_skip) (sk_reti (xk_cs hK))))
theorem sb_122 {Z : List ZD} {K : ZKt} {F : ZFt} (hK : kkk K) : sk (some .int) (bd_122 Z K F) := by
  unfold bd_122
  exact (sk_seq (sk_if xk_p (sk_reti xk_p) sk_skip) (sk_seq (sk_if xk_p (sk_reti xk_p) sk_skip) (sk_reti (xk_cs hK))))
theorem sb_123 {Z : List ZD} {K : ZKt} {F : ZFt} (hK : kkk K) : sk (some .int) (bd_123 Z K F) := by
  unfold bd_123
  exact (sk_seq (sk_if xk_p (sk_reti xk_p) sk_skip) (sk_seq (sk_deci xk_p) (sk_reti xk_p)))
theorem sb_124 {Z : List ZD} {K : ZKt} {F : ZFt} (hK : kkk K) : sk (some .int) (bd_124 Z K F) := by
  unfold bd_124
  exact (sk_seq (sk_if xk_p (sk_reti xk_p) sk_skip) (sk_seq (sk_if xk_p (sk_reti xk_p) sk_skip) (sk_reti (xk_cv hK))))
theorem sb_125 {Z : List ZD} {K : ZKt} {F : ZFt} (hK : kkk K) : sk (some .int) (bd_125 Z K F) := by
  unfold bd_125
  exact (sk_seq (sk_deci xk_p) (sk_seq (sk_put xk_p) (sk_reti xk_p)))
theorem sb_126 {Z : List ZD} {K : ZKt} {F : ZFt} (hK : kkk K) : sk (some .int) (bd_126 Z K F) := by
  unfold bd_126
  exact (sk_seq (sk_if xk_p (sk_reti xk_p) sk_skip) (sk_reti xk_p))
theorem sb_127 {Z : List ZD} {K : ZKt} {F : ZFt} (hK : kkk K) : sk (some .int) (bd_127 Z K F) := by
  unfold bd_127
  exact (sk_sw xk_p (ska_cons (sk_reti xk_p) (ska_cons (sk_reti xk_p) (ska_cons (sk_reti xk_p) (ska_cons (sk_reti xk_p) (ska_cons (sk_reti xk_p) (ska_cons (sk_reti xk_p) (ska_cons (sk_reti xk_p) (ska_cons (sk_reti xk_p) (ska_cons (sk_reti xk_p) (ska_cons (sk_reti xk_p) ska_nil)))))))))) (sk_reti xk_p))
theorem sb_128 {Z : List ZD} {K : ZKt} {F : ZFt} (hK : kkk K) : sk (some .long) (bd_128 Z K F) := by
  unfold bd_128
  exact (sk_seq (sk_decl xk_p) (sk_seq (sk_setl xk_p) (sk_seq (sk_setl xk_p) (sk_seq (sk_setl xk_p) (sk_seq (sk_setl xk_p) (sk_seq (sk_setl xk_p) (sk_seq (sk_setl xk_p) (sk_seq (sk_setl xk_p) (sk_seq (sk_setl xk_p) (sk_seq (sk_scope (sk_seq (sk_deci xk_p) (sk_whl xk_p (sk_seq (sk_setl xk_p) sk_inc)))) (sk_retl xk_p)))))))))))
theorem sb_129 {Z : List ZD} {K : ZKt} {F : ZFt} (hK : kkk K) : sk (some .boolean) (bd_129 Z K F) := by
  unfold bd_129
  exact (sk_retz xk_p)
theorem sb_130 {Z : List ZD} {K : ZKt} {F : ZFt} (hK : kkk K) : sk (some .boolean) (bd_130 Z K F) := by
  unfold bd_130
  exact (sk_retz xk_p)
theorem sb_131 {Z : List ZD} {K : ZKt} {F : ZFt} (hK : kkk K) : sk (some .int) (bd_131 Z K F) := by
  unfold bd_131
  exact (sk_seq (sk_if xk_p (sk_reti xk_p) sk_skip) (sk_seq (sk_deci xk_p) (sk_seq (sk_st xk_p xk_p) (sk_reti xk_p))))
theorem sb_132 {Z : List ZD} {K : ZKt} {F : ZFt} (hK : kkk K) : sk (some .long) (bd_132 Z K F) := by
  unfold bd_132
  exact (sk_retl xk_p)
theorem sb_133 {Z : List ZD} {K : ZKt} {F : ZFt} (hK : kkk K) : sk (some .long) (bd_133 Z K F) := by
  unfold bd_133
  exact (sk_seq (sk_decl xk_p) (sk_seq (sk_scope (sk_seq (sk_deci xk_p) (sk_whl xk_p (sk_seq (sk_setl xk_p) sk_inc)))) (sk_retl xk_p)))
theorem sb_134 {Z : List ZD} {K : ZKt} {F : ZFt} (hK : kkk K) : sk (some .int) (be_134 Z K F) := by
  unfold be_134
  exact (sk_seq (sk_deci xk_p) (sk_seq (sk_scope (sk_seq (sk_deci xk_p) (sk_forT xk_p sk_inc (sk_scope (sk_seq (sk_deci xk_p) (sk_seq (sk_if xk_p sk_brk sk_skip) (sk_seq (sk_if xk_p (sk_reti xk_p) sk_skip) sk_inc))))))) (sk_reti xk_p)))
theorem sb_135 {Z : List ZD} {K : ZKt} {F : ZFt} (hK : kkk K) : sk (some .boolean) (bd_135 Z K F) := by
  unfold bd_135
  exact (sk_retz xk_p)
theorem sb_136 {Z : List ZD} {K : ZKt} {F : ZFt} (hK : kkk K) : sk (some .boolean) (bd_136 Z K F) := by
  unfold bd_136
  exact (sk_retz xk_p)
theorem sb_137 {Z : List ZD} {K : ZKt} {F : ZFt} (hK : kkk K) : sk (some .boolean) (bd_137 Z K F) := by
  unfold bd_137
  exact (sk_retz xk_p)
theorem sb_138 {Z : List ZD} {K : ZKt} {F : ZFt} (hK : kkk K) : sk (some .boolean) (bd_138 Z K F) := by
  unfold bd_138
  exact (sk_seq (sk_deci xk_p) (sk_seq (sk_scope (sk_seq (sk_deci xk_p) (sk_whl xk_p (sk_seq (sk_seti xk_p) sk_inc)))) (sk_retz xk_p)))
theorem sb_139 {Z : List ZD} {K : ZKt} {F : ZFt} (hK : kkk K) : sk (some .int) (bd_139 Z K F) := by
  unfold bd_139
  exact (sk_seq (sk_if xk_p (sk_reti xk_p) sk_skip) (sk_seq (sk_if xk_p (sk_reti xk_p) sk_skip) (sk_seq (sk_if xk_p (sk_reti xk_p) sk_skip) (sk_seq (sk_deci xk_p) (sk_seq (sk_st xk_p xk_p) (sk_seq (sk_st xk_p xk_p) (sk_seq (sk_st xk_p xk_p) (sk_reti xk_p))))))))
theorem sb_140 {Z : List ZD} {K : ZKt} {F : ZFt} (hK : kkk K) : sk (some .int) (bd_140 Z K F) := by
  unfold bd_140
  exact (sk_seq (sk_if xk_p (sk_reti xk_p) sk_skip) (sk_seq (sk_if xk_p (sk_reti xk_p) sk_skip) (sk_reti xk_p)))
theorem sb_141 {Z : List ZD} {K : ZKt} {F : ZFt} (hK : kkk K) : sk (some .int) (bd_141 Z K F) := by
  unfold bd_141
  exact (sk_seq (sk_deci xk_p) (sk_sw xk_p (ska_cons (sk_reti xk_p) (ska_cons (sk_reti xk_p) (ska_cons (sk_reti xk_p) (ska_cons (sk_reti xk_p) (ska_cons (sk_reti xk_p) ska_nil))))) (sk_reti xk_p)))
theorem sb_142 {Z : List ZD} {K : ZKt} {F : ZFt} (hK : kkk K) : sk (some .int) (bd_142 Z K F) := by
  unfold bd_142
  exact (sk_reti xk_p)
theorem sb_143 {Z : List ZD} {K : ZKt} {F : ZFt} (hK : kkk K) : sk (some .boolean) (bd_143 Z K F) := by
  unfold bd_143
  exact (sk_retz xk_p)
theorem sb_144 {Z : List ZD} {K : ZKt} {F : ZFt} (hK : kkk K) : sk (some .int) (bd_144 Z K F) := by
  unfold bd_144
  exact (sk_seq (sk_if xk_p (sk_reti xk_p) sk_skip) (sk_seq (sk_if xk_p (sk_reti xk_p) sk_skip) (sk_seq (sk_deci xk_p) (sk_seq (sk_st xk_p xk_p) (sk_seq (sk_st xk_p xk_p) (sk_reti xk_p))))))
theorem sb_145 {Z : List ZD} {K : ZKt} {F : ZFt} (hK : kkk K) : sk (some .int) (bd_145 Z K F) := by
  unfold bd_145
  exact (sk_seq (sk_deci xk_p) (sk_sw xk_p (ska_cons (sk_reti xk_p) (ska_cons (sk_reti xk_p) (ska_cons (sk_reti xk_p) (ska_cons (sk_reti xk_p) (ska_cons (sk_reti xk_p) (ska_cons (sk_reti xk_p) ska_nil)))))) (sk_reti xk_p)))
theorem sb_146 {Z : List ZD} {K : ZKt} {F : ZFt} (hK : kkk K) : sk (some .int) (bd_146 Z K F) := by
  unfold bd_146
  exact (sk_reti xk_p)
theorem sb_147 {Z : List ZD} {K : ZKt} {F : ZFt} (hK : kkk K) : sk (some .int) (bd_147 Z K F) := by
  unfold bd_147
  exact (sk_seq (sk_if xk_p (sk_reti xk_p) sk_skip) (sk_seq (sk_if xk_p (sk_reti xk_p) sk_skip) (sk_seq (sk_deci xk_p) (sk_seq (sk_st xk_p xk_p) (sk_reti xk_p)))))
theorem sb_148 {Z : List ZD} {K : ZKt} {F : ZFt} (hK : kkk K) : sk (some .int) (bd_148 Z K F) := by
  unfold bd_148
  exact (sk_seq (sk_deci xk_p) (sk_seq (sk_deci xk_p) (sk_seq (sk_scope (sk_seq (sk_deci xk_p) (sk_whl xk_p (sk_seq (sk_scope (sk_seq (sk_deci xk_p) (sk_seq (sk_if xk_p (sk_reti xk_p) sk_skip) (sk_seq (sk_seti xk_p) (sk_seti xk_p))))) sk_inc)))) (sk_seq (sk_if xk_p (sk_reti xk_p) sk_skip) (sk_seq (sk_scope (sk_seq (sk_deci xk_p) (sk_whl xk_p (sk_seq (sk_st xk_p xk_p) sk_inc)))) (sk_seq sk_upd (sk_reti xk_p)))))))
theorem sb_149 {Z : List ZD} {K : ZKt} {F : ZFt} (hK : kkk K) : sk (some .int) (bd_149 Z K F) := by
  unfold bd_149
  exact (sk_seq (sk_deci xk_p) (sk_seq (sk_put xk_p) (sk_reti xk_p)))
theorem sb_150 {Z : List ZD} {K : ZKt} {F : ZFt} (hK : kkk K) : sk (none) (bd_150 Z K F) := by
  unfold bd_150
  exact (sk_seq (sk_seq (sk_deci xk_p) (sk_seq (sk_deci xk_p) (sk_seq (sk_deci xk_p) (sk_seq (sk_deci xk_p) (sk_seq (sk_deci xk_p) (sk_seq (sk_deci xk_p) (sk_seq (sk_deci xk_p) (sk_seq (sk_put xk_p) (sk_seq (sk_whl xk_p (sk_scope (sk_seq (sk_deci xk_p) (sk_seq (sk_deci xk_p) (sk_seq (sk_if xk_p (sk_seq (sk_st xk_p xk_p) (sk_seti xk_p)) (sk_if xk_p (sk_seq (sk_st xk_p xk_p) (sk_seq sk_upd (sk_seti xk_p))) (sk_if xk_p (sk_seq (sk_seti xk_p) (sk_seq (sk_seti xk_p) (sk_seq (sk_seti xk_p) (sk_seti xk_p)))) (sk_if xk_p (sk_seq (sk_seti xk_p) (sk_seti xk_p)) (sk_if xk_p (sk_seq (sk_seti xk_p) (sk_seq sk_inc (sk_seq (sk_st xk_p xk_p) (sk_seti xk_p)))) (sk_if xk_p (sk_seq (sk_seti xk_p) (sk_seq (sk_seti xk_p) (sk_seq (sk_seti xk_p) (sk_seq (sk_seti xk_p) (sk_seti xk_p))))) (sk_seti xk_p))))))) (sk_seti xk_p)))))) (sk_seq (sk_put xk_p) (sk_put xk_p))))))))))) sk_retv)
theorem sb_151 {Z : List ZD} {K : ZKt} {F : ZFt} (hK : kkk K) : sk (some .int) (bd_151 Z K F) := by
  unfold bd_151
  exact (sk_seq (sk_cv hK) (sk_reti xk_p))
theorem sb_152 {Z : List ZD} {K : ZKt} {F : ZFt} (hK : kkk K) : sk (some .int) (bd_152 Z K F) := by
  unfold bd_152
  exact (sk_seq (sk_cv hK) (sk_seq (sk_if xk_p (sk_reti xk_p) sk_skip) (sk_seq (sk_if xk_p (sk_reti xk_p) sk_skip) (sk_seq (sk_if xk_p (sk_reti xk_p) sk_skip) (sk_seq (sk_scope (sk_seq (sk_deci xk_p) (sk_whl xk_p (sk_seq (sk_seq (sk_st xk_p xk_p) (sk_st xk_p xk_p)) sk_inc)))) (sk_seq (sk_st xk_p xk_p) (sk_seq (sk_st xk_p xk_p) (sk_seq (sk_st xk_p xk_p) (sk_seq sk_upd (sk_seq (sk_put xk_p) (sk_reti xk_p)))))))))))
theorem sb_153 {Z : List ZD} {K : ZKt} {F : ZFt} (hK : kkk K) : sk (some .boolean) (bd_153 Z K F) := by
  unfold bd_153
  exact (sk_retz xk_p)
theorem sb_154 {Z : List ZD} {K : ZKt} {F : ZFt} (hK : kkk K) : sk (some .int) (bd_154 Z K F) := by
  unfold bd_154
  exact (sk_seq (sk_deci xk_p) (sk_seq (sk_scope (sk_seq (sk_deci xk_p) (sk_whl xk_p (sk_seq (sk_seti xk_p) sk_inc)))) (sk_reti xk_p)))
theorem sb_155 {Z : List ZD} {K : ZKt} {F : ZFt} (hK : kkk K) : sk (some .int) (bd_155 Z K F) := by
  unfold bd_155
  exact (sk_seq (sk_deci xk_p) (sk_seq (sk_scope (sk_seq (sk_deci xk_p) (sk_whl xk_p (sk_seq (sk_seti xk_p) sk_inc)))) (sk_reti xk_p)))
theorem sb_156 {Z : List ZD} {K : ZKt} {F : ZFt} (hK : kkk K) : sk (some .boolean) (bd_156 Z K F) := by
  unfold bd_156
  exact (sk_seq (sk_deci xk_p) (sk_seq (sk_deci xk_p) (sk_retz xk_p)))
theorem sb_157 {Z : List ZD} {K : ZKt} {F : ZFt} (hK : kkk K) : sk (some .int) (bd_157 Z K F) := by
  unfold bd_157
  exact (sk_sw xk_p (ska_cons (sk_reti xk_p) (ska_cons (sk_reti xk_p) (ska_cons (sk_reti xk_p) (ska_cons (sk_reti xk_p) (ska_cons (sk_reti xk_p) (ska_cons (sk_reti xk_p) ska_nil)))))) (sk_reti xk_p))
theorem sb_158 {Z : List ZD} {K : ZKt} {F : ZFt} (hK : kkk K) : sk (some .int) (bd_158 Z K F) := by
  unfold bd_158
  exact (sk_reti xk_p)
theorem sb_159 {Z : List ZD} {K : ZKt} {F : ZFt} (hK : kkk K) : sk (some .long) (bd_159 Z K F) := by
  unfold bd_159
  exact (sk_seq (sk_if xk_p (sk_retl xk_p) sk_skip) (sk_seq (sk_scope (sk_seq (sk_deci xk_p) (sk_whl xk_p (sk_seq sk_stl sk_inc)))) (sk_seq (sk_decl xk_p) (sk_seq (sk_scope (sk_seq (sk_deci xk_p) (sk_whl xk_p (sk_seq (sk_scope (sk_seq (sk_deci xk_p) (sk_seq (sk_deci xk_p) (sk_seq (sk_scope (sk_seq (sk_deci xk_p) (sk_whl xk_p (sk_seq (sk_seti xk_p) sk_inc)))) (sk_seq (sk_scope (sk_seq (sk_deci xk_p) (sk_whl xk_p (sk_seq sk_stl sk_inc)))) (sk_seq (sk_scope (sk_seq (sk_deci xk_p) (sk_whl xk_p (sk_seq (sk_scope (sk_seq (sk_decl xk_p) (sk_scope (sk_seq (sk_deci xk_p) (sk_whl xk_p (sk_seq (sk_scope (sk_seq (sk_deci xk_p) (sk_if xk_p sk_stul sk_skip))) sk_inc)))))) sk_inc)))) (sk_seq (sk_scope (sk_seq (sk_deci xk_p) (sk_whl xk_p (sk_seq sk_stl sk_inc)))) (sk_setl xk_p)))))))) sk_inc)))) (sk_seq (sk_decl xk_p) (sk_seq (sk_scope (sk_seq (sk_deci xk_p) (sk_whl xk_p (sk_seq (sk_setl xk_p) sk_inc)))) (sk_seq (sk_decl xk_p) (sk_seq (sk_decl xk_p) (sk_seq (sk_whl xk_p (sk_scope (sk_seq (sk_decl xk_p) (sk_seq (sk_setl xk_p) (sk_setl xk_p))))) (sk_retl xk_p))))))))))
theorem sb_160 {Z : List ZD} {K : ZKt} {F : ZFt} (hK : kkk K) : sk (some .boolean) (bd_160 Z K F) := by
  unfold bd_160
  exact (sk_seq (sk_deci xk_p) (sk_seq (sk_scope (sk_seq (sk_deci xk_p) (sk_whl xk_p (sk_seq (sk_seti xk_p) sk_inc)))) (sk_retz xk_p)))
theorem sb_161 {Z : List ZD} {K : ZKt} {F : ZFt} (hK : kkk K) : sk (some .int) (bd_161 Z K F) := by
  unfold bd_161
  exact (sk_seq (sk_if xk_p (sk_reti xk_p) sk_skip) (sk_seq (sk_if xk_p (sk_reti xk_p) sk_skip) (sk_seq sk_upd (sk_seq (sk_scope (sk_seq (sk_deci xk_p) (sk_whl xk_p (sk_seq (sk_st xk_p xk_p) sk_inc)))) (sk_seq (sk_deci xk_p) (sk_seq (sk_deci xk_p) (sk_seq (sk_scope (sk_seq (sk_deci xk_p) (sk_whl xk_p (sk_seq (sk_scope (sk_seq (sk_deci xk_p) (sk_seq (sk_scope (sk_seq (sk_deci xk_p) (sk_whl xk_p (sk_seq (sk_seq (sk_st xk_p xk_p) (sk_seti xk_p)) sk_inc)))) (sk_if xk_p (sk_seq (sk_seti xk_p) (sk_seti xk_p)) sk_skip)))) sk_inc)))) (sk_seq (sk_scope (sk_seq (sk_deci xk_p) (sk_whl xk_p (sk_seq (sk_st xk_p xk_p) sk_inc)))) (sk_reti xk_p)))))))))
theorem sb_162 {Z : List ZD} {K : ZKt} {F : ZFt} (hK : kkk K) : sk (some .int) (bd_162 Z K F) := by
  unfold bd_162
  exact (sk_seq (sk_if xk_p (sk_reti xk_p) sk_skip) (sk_seq (sk_if xk_p (sk_reti xk_p) sk_skip) (sk_seq (sk_if xk_p (sk_reti xk_p) sk_skip) (sk_seq (sk_st xk_p xk_p) (sk_seq (sk_st xk_p xk_p) (sk_seq (sk_st xk_p xk_p) (sk_seq sk_upd (sk_reti xk_p))))))))
theorem sb_163 {Z : List ZD} {K : ZKt} {F : ZFt} (hK : kkk K) : sk (some .int) (bd_163 Z K F) := by
  unfold bd_163
  exact (sk_seq (sk_if xk_p (sk_reti xk_p) sk_skip) (sk_seq (sk_if xk_p (sk_reti xk_p) sk_skip) (sk_seq (sk_if xk_p (sk_reti xk_p) sk_skip) (sk_seq (sk_st xk_p xk_p) (sk_seq (sk_st xk_p xk_p) (sk_seq sk_stu (sk_reti xk_p)))))))
theorem sb_164 {Z : List ZD} {K : ZKt} {F : ZFt} (hK : kkk K) : sk (some .int) (bd_164 Z K F) := by
  unfold bd_164
  exact (sk_seq (sk_deci xk_p) (sk_seq (sk_scope (sk_seq (sk_deci xk_p) (sk_whl xk_p (sk_seq (sk_scope (sk_seq (sk_deci xk_p) (sk_seq (sk_deci xk_p) (sk_seq (sk_deci xk_p) (sk_seq (sk_seti xk_p) (sk_seti xk_p)))))) sk_inc)))) (sk_reti xk_p)))
theorem sb_165 {Z : List ZD} {K : ZKt} {F : ZFt} (hK : kkk K) : sk (some .int) (bd_165 Z K F) := by
  unfold bd_165
  exact (sk_seq (sk_deci xk_p) (sk_seq (sk_if xk_p (sk_reti xk_p) sk_skip) (sk_seq (sk_if xk_p (sk_reti xk_p) sk_skip) (sk_seq (sk_scope (sk_seq (sk_deci xk_p) (sk_whl xk_p (sk_seq (sk_scope (sk_seq (sk_deci xk_p) (sk_if xk_p (sk_reti xk_p) sk_skip))) sk_inc)))) (sk_reti xk_p)))))
theorem sb_166 {Z : List ZD} {K : ZKt} {F : ZFt} (hK : kkk K) : sk (some .int) (bd_166 Z K F) := by
  unfold bd_166
  exact (sk_seq (sk_deci xk_p) (sk_reti xk_p))
theorem sb_167 {Z : List ZD} {K : ZKt} {F : ZFt} (hK : kkk K) : sk (some .int) (bd_167 Z K F) := by
  unfold bd_167
  exact (sk_reti xk_p)
theorem sb_168 {Z : List ZD} {K : ZKt} {F : ZFt} (hK : kkk K) : sk (none) (bd_168 Z K F) := by
  unfold bd_168
  exact (sk_seq (sk_scope (sk_seq (sk_deci xk_p) (sk_whl xk_p (sk_seq (sk_scope (sk_seq (sk_deci xk_p) (sk_whl xk_p (sk_seq (sk_scope (sk_seq (sk_deci xk_p) (sk_st xk_p xk_p))) sk_inc)))) sk_inc)))) sk_retv)
theorem sb_169 {Z : List ZD} {K : ZKt} {F : ZFt} (hK : kkk K) : sk (some .boolean) (bd_169 Z K F) := by
  unfold bd_169
  exact (sk_seq (sk_scope (sk_seq (sk_deci xk_p) (sk_whl xk_p (sk_seq (sk_st xk_p xk_p) sk_inc)))) (sk_seq (sk_deci xk_p) (sk_seq (sk_deci xk_p) (sk_seq (sk_st xk_p xk_p) (sk_seq (sk_whl xk_p (sk_scope (sk_seq (sk_deci xk_p) (sk_seq sk_inc (sk_scope (sk_seq (sk_deci xk_p) (sk_whl xk_p (sk_seq (sk_if xk_p (sk_seq (sk_st xk_p xk_p) (sk_seq (sk_if xk_p (sk_seq (sk_cv hK) (sk_retz xk_p)) sk_skip) (sk_seq (sk_st xk_p xk_p) sk_inc))) sk_skip) sk_inc)))))))) (sk_retz xk_p))))))
theorem sb_170 {Z : List ZD} {K : ZKt} {F : ZFt} (hK : kkk K) : sk (none) (bd_170 Z K F) := by
  unfold bd_170
  exact (sk_seq (sk_seq (sk_deci xk_p) (sk_whl xk_p (sk_scope (sk_seq (sk_deci xk_p) (sk_seq (sk_deci xk_p) (sk_seq (sk_st xk_p xk_p) (sk_seq (sk_st xk_p xk_p) (sk_seti xk_p)))))))) sk_retv)
theorem sb_171 {Z : List ZD} {K : ZKt} {F : ZFt} (hK : kkk K) : sk (some .int) (bd_171 Z K F) := by
  unfold bd_171
  exact (sk_seq (sk_scope (sk_seq (sk_deci xk_p) (sk_whl xk_p (sk_seq (sk_st xk_p xk_p) sk_inc)))) (sk_seq (sk_deci xk_p) (sk_seq (sk_scope (sk_seq (sk_deci xk_p) (sk_whl xk_p (sk_seq (sk_seti (xk_b (xk_t (xk_and xk_p (xk_nz (xk_cv hK))) xk_p xk_p))) sk_inc)))) (sk_reti xk_p))))
theorem sb_172 {Z : List ZD} {K : ZKt} {F : ZFt} (hK : kkk K) : sk (some .int) (bd_172 Z K F) := by
  unfold bd_172
  exact (sk_seq (sk_scope (sk_seq (sk_deci xk_p) (sk_whl xk_p (sk_seq (sk_seq (sk_st xk_p xk_p) (sk_st xk_p xk_p)) sk_inc)))) (sk_seq (sk_deci (xk_cv hK)) (sk_seq (sk_deci xk_p) (sk_seq (sk_scope (sk_seq (sk_deci xk_p) (sk_whl xk_p (sk_seq (sk_if xk_p (sk_scope (sk_seq (sk_st xk_p xk_p) (sk_seq (sk_deci xk_p) (sk_seq (sk_deci xk_p) (sk_whl xk_p (sk_seq (sk_if xk_p (sk_seq (sk_st xk_p xk_p) (sk_if (xk_eq (xk_cv hK)) (sk_seq (sk_st xk_p xk_p) (sk_seq sk_inc (sk_seti xk_p))) (sk_st xk_p xk_p))) sk_skip) sk_inc)))))) sk_skip) sk_inc)))) (sk_reti xk_p)))))
theorem sb_173 {Z : List ZD} {K : ZKt} {F : ZFt} (hK : kkk K) : sk (some .int) (bd_173 Z K F) := by
  unfold bd_173
  exact (sk_seq (sk_if xk_p (sk_reti xk_p) sk_skip) (sk_seq (sk_if xk_p (sk_reti xk_p) sk_skip) (sk_seq (sk_cv hK) (sk_seq (sk_deci (xk_cv hK)) (sk_reti xk_p)))))
theorem sb_174 {Z : List ZD} {K : ZKt} {F : ZFt} (hK : kkk K) : sk (some .boolean) (bd_174 Z K F) := by
  unfold bd_174
  exact (sk_retz xk_p)
theorem sb_175 {Z : List ZD} {K : ZKt} {F : ZFt} (hK : kkk K) : sk (some .int) (bd_175 Z K F) := by
  unfold bd_175
  exact (sk_seq (sk_scope (sk_seq (sk_deci xk_p) (sk_whl xk_p (sk_seq (sk_if xk_p (sk_reti xk_p) sk_skip) sk_inc)))) (sk_reti xk_p))
theorem sb_176 {Z : List ZD} {K : ZKt} {F : ZFt} (hK : kkk K) : sk (some .int) (bd_176 Z K F) := by
  unfold bd_176
  exact (sk_seq (sk_if xk_p (sk_reti xk_p) sk_skip) (sk_seq (sk_deci xk_p) (sk_seq (sk_if xk_p (sk_st xk_p xk_p) sk_skip) (sk_seq (sk_deci xk_p) (sk_seq (sk_st xk_p xk_p) (sk_reti xk_p))))))
theorem sb_177 {Z : List ZD} {K : ZKt} {F : ZFt} (hK : kkk K) : sk (some .int) (bd_177 Z K F) := by
  unfold bd_177
  exact (sk_reti xk_p)
theorem sb_178 {Z : List ZD} {K : ZKt} {F : ZFt} (hK : kkk K) : sk (some .boolean) (bd_178 Z K F) := by
  unfold bd_178
  exact (sk_seq (sk_deci xk_p) (sk_seq (sk_deci xk_p) (sk_seq (sk_scope (sk_seq (sk_deci xk_p) (sk_whl xk_p (sk_seq (sk_scope (sk_seq (sk_deci xk_p) (sk_seq (sk_if xk_p (sk_retz xk_p) sk_skip) (sk_seq (sk_deci xk_p) (sk_seq (sk_seti xk_p) (sk_seti xk_p)))))) sk_inc)))) (sk_retz xk_p))))
theorem sb_179 {Z : List ZD} {K : ZKt} {F : ZFt} (hK : kkk K) : sk (some .int) (bd_179 Z K F) := by
  unfold bd_179
  exact (sk_reti xk_p)
theorem sb_180 {Z : List ZD} {K : ZKt} {F : ZFt} (hK : kkk K) : sk (some .boolean) (bd_180 Z K F) := by
  unfold bd_180
  exact (sk_seq (sk_deci xk_p) (sk_seq (sk_scope (sk_seq (sk_deci xk_p) (sk_whl xk_p (sk_seq (sk_seti xk_p) sk_inc)))) (sk_retz xk_p)))
theorem sb_181 {Z : List ZD} {K : ZKt} {F : ZFt} (hK : kkk K) : sk (some .int) (bd_181 Z K F) := by
  unfold bd_181
  exact (sk_seq (sk_deci xk_p) (sk_seq (sk_scope (sk_seq (sk_deci xk_p) (sk_whl xk_p (sk_seq (sk_seti xk_p) sk_inc)))) (sk_reti xk_p)))
theorem sb_182 {Z : List ZD} {K : ZKt} {F : ZFt} (hK : kkk K) : sk (none) (bd_182 Z K F) := by
  unfold bd_182
  exact (sk_seq (sk_seq (sk_deci xk_p) (sk_seq (sk_st xk_p xk_p) (sk_st xk_p xk_p))) sk_retv)
theorem sb_183 {Z : List ZD} {K : ZKt} {F : ZFt} (hK : kkk K) : sk (some .boolean) (bd_183 Z K F) := by
  unfold bd_183
  exact (sk_seq (sk_if xk_p (sk_retz xk_p) sk_skip) (sk_seq (sk_cv hK) (sk_seq (sk_deci xk_p) (sk_seq (sk_cv hK) (sk_retz xk_p)))))
theorem sb_184 {Z : List ZD} {K : ZKt} {F : ZFt} (hK : kkk K) : sk (some .int) (bd_184 Z K F) := by
  unfold bd_184
  exact (sk_seq (sk_if xk_p (sk_reti xk_p) sk_skip) (sk_seq (sk_scope (sk_seq (sk_deci xk_p) (sk_whl xk_p (sk_seq (sk_scope (sk_seq (sk_deci xk_p) (sk_whl xk_p (sk_seq (sk_scope (sk_seq (sk_deci xk_p) (sk_whl xk_p (sk_seq (sk_if (xk_nz (xk_cv hK)) (sk_reti xk_p) sk_skip) sk_inc)))) sk_inc)))) sk_inc)))) (sk_reti xk_p)))
theorem sb_185 {Z : List ZD} {K : ZKt} {F : ZFt} (hK : kkk K) : sk (some .int) (bd_185 Z K F) := by
  unfold bd_185
  exact (sk_seq (sk_if xk_p (sk_reti xk_p) sk_skip) (sk_seq (sk_if xk_p (sk_reti xk_p) sk_skip) (sk_seq (sk_deci xk_p) (sk_seq (sk_st xk_p xk_p) (sk_reti xk_p)))))
theorem sb_186 {Z : List ZD} {K : ZKt} {F : ZFt} (hK : kkk K) : sk (some .int) (bd_186 Z K F) := by
  unfold bd_186
  exact (sk_seq (sk_deci xk_p) (sk_seq (sk_scope (sk_seq (sk_deci xk_p) (sk_whl xk_p (sk_seq (sk_scope (sk_seq (sk_deci xk_p) (sk_seti xk_p))) sk_inc)))) (sk_reti xk_p)))
theorem sb_187 {Z : List ZD} {K : ZKt} {F : ZFt} (hK : kkk K) : sk (some .int) (bd_187 Z K F) := by
  unfold bd_187
  exact (sk_seq (sk_deci xk_p) (sk_seq (sk_scope (sk_seq (sk_deci xk_p) (sk_whl xk_p (sk_seq sk_inc (sk_seti xk_p))))) (sk_reti xk_p)))
theorem sb_188 {Z : List ZD} {K : ZKt} {F : ZFt} (hK : kkk K) : sk (some .int) (bd_188 Z K F) := by
  unfold bd_188
  exact (sk_seq (sk_deci xk_p) (sk_seq (sk_scope (sk_seq (sk_deci xk_p) (sk_whl xk_p (sk_seq (sk_scope (sk_seq (sk_deci xk_p) (sk_seq (sk_scope (sk_seq (sk_deci xk_p) (sk_whl xk_p (sk_seq (sk_scope (sk_seq (sk_deci xk_p) (sk_seti xk_p))) sk_inc)))) (sk_seti xk_p)))) sk_inc)))) (sk_reti xk_p)))
theorem sb_189 {Z : List ZD} {K : ZKt} {F : ZFt} (hK : kkk K) : sk (some .int) (bd_189 Z K F) := by
  unfold bd_189
  exact (sk_reti xk_p)
theorem sb_190 {Z : List ZD} {K : ZKt} {F : ZFt} (hK : kkk K) : sk (some .int) (bd_190 Z K F) := by
  unfold bd_190
  exact (sk_seq (sk_deci xk_p) (sk_seq (sk_if xk_p (sk_reti xk_p) sk_skip) (sk_seq (sk_deci xk_p) (sk_seq (sk_scope (sk_seq (sk_deci xk_p) (sk_whl xk_p (sk_seq (sk_seti xk_p) sk_inc)))) (sk_reti xk_p)))))
theorem sb_191 {Z : List ZD} {K : ZKt} {F : ZFt} (hK : kkk K) : sk (some .boolean) (bd_191 Z K F) := by
  unfold bd_191
  exact (sk_retz xk_p)
theorem sb_192 {Z : List ZD} {K : ZKt} {F : ZFt} (hK : kkk K) : sk (some .int) (bd_192 Z K F) := by
  unfold bd_192
  exact (sk_seq (sk_if xk_p (sk_reti xk_p) sk_skip) (sk_seq (sk_if xk_p (sk_reti xk_p) sk_skip) (sk_seq (sk_deci xk_p) (sk_seq (sk_st xk_p xk_p) (sk_reti xk_p)))))
theorem sb_193 {Z : List ZD} {K : ZKt} {F : ZFt} (hK : kkk K) : sk (some .int) (bd_193 Z K F) := by
  unfold bd_193
  exact (sk_seq (sk_if xk_p (sk_reti xk_p) sk_skip) (sk_seq (sk_if xk_p (sk_reti xk_p) sk_skip) (sk_seq (sk_deci xk_p) (sk_seq (sk_st xk_p xk_p) (sk_seq (sk_st xk_p xk_p) (sk_reti xk_p))))))
theorem sb_194 {Z : List ZD} {K : ZKt} {F : ZFt} (hK : kkk K) : sk (some .int) (bd_194 Z K F) := by
  unfold bd_194
  exact (sk_seq (sk_if xk_p (sk_reti xk_p) sk_skip) (sk_seq (sk_if xk_p (sk_reti xk_p) sk_skip) (sk_seq (sk_if xk_p (sk_reti xk_p) sk_skip) (sk_seq (sk_st xk_p xk_p) (sk_seq (sk_st xk_p xk_p) (sk_seq sk_upd (sk_reti xk_p)))))))
theorem sb_195 {Z : List ZD} {K : ZKt} {F : ZFt} (hK : kkk K) : sk (some .int) (bd_195 Z K F) := by
  unfold bd_195
  exact (sk_seq (sk_deci xk_p) (sk_seq (sk_deci xk_p) (sk_seq (sk_scope (sk_seq (sk_deci xk_p) (sk_whl xk_p (sk_seq (sk_scope (sk_seq (sk_deci xk_p) (sk_seti xk_p))) sk_inc)))) (sk_reti xk_p))))
theorem sb_196 {Z : List ZD} {K : ZKt} {F : ZFt} (hK : kkk K) : sk (none) (bd_196 Z K F) := by
  unfold bd_196
  exact (sk_seq (sk_scope (sk_seq (sk_deci xk_p) (sk_whl xk_p (sk_seq (sk_st xk_p xk_p) sk_inc)))) sk_retv)
theorem sb_197 {Z : List ZD} {K : ZKt} {F : ZFt} (hK : kkk K) : sk (some .int) (bd_197 Z K F) := by
  unfold bd_197
  exact (sk_seq (sk_deci xk_p) (sk_seq (sk_scope (sk_seq (sk_deci xk_p) (sk_whl xk_p (sk_seq (sk_scope (sk_seq (sk_deci xk_p) (sk_seq (sk_if xk_p (sk_reti xk_p) sk_skip) (sk_seti xk_p)))) sk_inc)))) (sk_seq (sk_scope (sk_seq (sk_deci xk_p) (sk_whl xk_p (sk_seq (sk_if xk_p (sk_reti xk_p) sk_skip) sk_inc)))) (sk_reti xk_p))))
theorem sb_198 {Z : List ZD} {K : ZKt} {F : ZFt} (hK : kkk K) : sk (some .int) (bd_198 Z K F) := by
  unfold bd_198
  exact (sk_seq (sk_if xk_p (sk_reti xk_p) sk_skip) (sk_seq (sk_if xk_p (sk_reti xk_p) sk_skip) (sk_seq (sk_if xk_p (sk_reti xk_p) sk_skip) (sk_seq sk_upd (sk_seq (sk_deci xk_p) (sk_seq (sk_deci xk_p) (sk_seq (sk_scope (sk_seq (sk_deci xk_p) (sk_whl xk_p (sk_seq (sk_scope (sk_seq (sk_cv hK) (sk_seq (sk_deci xk_p) (sk_if xk_p (sk_seq (sk_seti xk_p) (sk_seti xk_p)) sk_skip)))) sk_inc)))) (sk_seq (sk_if xk_p (sk_reti xk_p) sk_skip) (sk_seq (sk_cv hK) (sk_reti xk_p))))))))))
theorem sb_199 {Z : List ZD} {K : ZKt} {F : ZFt} (hK : kkk K) : sk (some .int) (bd_199 Z K F) := by
  unfold bd_199
  exact (sk_seq (sk_if xk_p (sk_reti xk_p) sk_skip) (sk_seq (sk_if xk_p (sk_reti xk_p) sk_skip) (sk_seq (sk_if xk_p (sk_reti xk_p) sk_skip) (sk_seq (sk_st xk_p xk_p) (sk_seq sk_stu (sk_reti xk_p))))))
theorem sb_200 {Z : List ZD} {K : ZKt} {F : ZFt} (hK : kkk K) : sk (some .int) (bd_200 Z K F) := by
  unfold bd_200
  exact (sk_seq (sk_if xk_p (sk_reti xk_p) sk_skip) (sk_seq (sk_if xk_p (sk_reti xk_p) sk_skip) (sk_seq (sk_scope (sk_seq (sk_deci xk_p) (sk_whl xk_p (sk_seq (sk_scope (sk_seq (sk_deci xk_p) (sk_seq (sk_scope (sk_seq (sk_deci xk_p) (sk_whl xk_p (sk_seq (sk_seti xk_p) sk_inc)))) (sk_if xk_p (sk_reti xk_p) sk_skip)))) sk_inc)))) (sk_reti xk_p))))
theorem sb_201 {Z : List ZD} {K : ZKt} {F : ZFt} (hK : kkk K) : sk (some .int) (bd_201 Z K F) := by
  unfold bd_201
  exact (sk_seq (sk_if xk_p (sk_reti xk_p) sk_skip) (sk_seq (sk_if xk_p (sk_reti xk_p) sk_skip) (sk_seq (sk_st xk_p xk_p) (sk_seq sk_upd (sk_reti xk_p)))))
theorem sb_202 {Z : List ZD} {K : ZKt} {F : ZFt} (hK : kkk K) : sk (some .int) (bd_202 Z K F) := by
  unfold bd_202
  exact (sk_seq (sk_if xk_p (sk_reti xk_p) sk_skip) (sk_seq (sk_if xk_p (sk_reti xk_p) sk_skip) (sk_seq (sk_deci xk_p) (sk_seq (sk_st xk_p xk_p) (sk_reti xk_p)))))
theorem sb_203 {Z : List ZD} {K : ZKt} {F : ZFt} (hK : kkk K) : sk (some .int) (bd_203 Z K F) := by
  unfold bd_203
  exact (sk_seq (sk_if xk_p (sk_reti xk_p) sk_skip) (sk_seq (sk_if xk_p (sk_reti xk_p) sk_skip) (sk_seq (sk_deci xk_p) (sk_seq (sk_st xk_p xk_p) (sk_reti xk_p)))))
theorem sb_204 {Z : List ZD} {K : ZKt} {F : ZFt} (hK : kkk K) : sk (some .boolean) (bd_204 Z K F) := by
  unfold bd_204
  exact (sk_seq (sk_deci xk_p) (sk_seq (sk_scope (sk_seq (sk_deci xk_p) (sk_whl xk_p (sk_seq (sk_scope (sk_seq (sk_decl xk_p) (sk_seq (sk_decl xk_p) (sk_seq (sk_scope (sk_seq (sk_deci xk_p) (sk_whl xk_p (sk_seq (sk_if xk_p (sk_seq (sk_setl xk_p) (sk_setl xk_p)) sk_skip) sk_inc)))) (sk_seti xk_p))))) sk_inc)))) (sk_retz xk_p)))
theorem sb_205 {Z : List ZD} {K : ZKt} {F : ZFt} (hK : kkk K) : sk (some .int) (bd_205 Z K F) := by
  unfold bd_205
  exact (sk_seq (sk_deci xk_p) (sk_seq (sk_scope (sk_seq (sk_deci xk_p) (sk_whl xk_p (sk_seq (sk_seti xk_p) sk_inc)))) (sk_reti xk_p)))
theorem sb_206 {Z : List ZD} {K : ZKt} {F : ZFt} (hK : kkk K) : sk (some .int) (bd_206 Z K F) := by
  unfold bd_206
  exact (sk_seq (sk_if xk_p (sk_reti xk_p) sk_skip) (sk_seq (sk_deci xk_p) (sk_seq (sk_scope (sk_seq (sk_deci xk_p) (sk_whl xk_p (sk_seq (sk_if xk_p (sk_scope (sk_seq (sk_deci xk_p) (sk_seti xk_p))) sk_skip) sk_inc)))) (sk_reti xk_p))))
theorem sb_207 {Z : List ZD} {K : ZKt} {F : ZFt} (hK : kkk K) : sk (some .int) (bd_207 Z K F) := by
  unfold bd_207
  exact (sk_seq (sk_if xk_p (sk_reti xk_p) sk_skip) (sk_seq (sk_if xk_p (sk_reti xk_p) sk_skip) (sk_seq (sk_st xk_p xk_p) (sk_seq sk_upd (sk_reti xk_p)))))
theorem sb_208 {Z : List ZD} {K : ZKt} {F : ZFt} (hK : kkk K) : sk (some .int) (bd_208 Z K F) := by
  unfold bd_208
  exact (sk_seq (sk_deci xk_p) (sk_seq (sk_put xk_p) (sk_reti xk_p)))
theorem sb_209 {Z : List ZD} {K : ZKt} {F : ZFt} (hK : kkk K) : sk (some .int) (bd_209 Z K F) := by
  unfold bd_209
  exact (sk_seq (sk_deci xk_p) (sk_seq (sk_deci xk_p) (sk_seq (sk_scope (sk_seq (sk_deci xk_p) (sk_whl xk_p (sk_seq (sk_seq (sk_seti xk_p) (sk_seti xk_p)) sk_inc)))) (sk_seq (sk_deci xk_p) (sk_reti xk_p)))))
theorem sb_210 {Z : List ZD} {K : ZKt} {F : ZFt} (hK : kkk K) : sk (some .int) (bd_210 Z K F) := by
  unfold bd_210
  exact (sk_seq (sk_if xk_p (sk_reti xk_p) sk_skip) (sk_seq (sk_deci xk_p) (sk_seq (sk_deci xk_p) (sk_seq (sk_deci xk_p) (sk_seq (sk_scope (sk_seq (sk_deci xk_p) (sk_whl xk_p (sk_seq (sk_if xk_p (sk_seq sk_inc (sk_seti xk_p)) sk_skip) sk_inc)))) (sk_reti xk_p))))))
theorem sb_211 {Z : List ZD} {K : ZKt} {F : ZFt} (hK : kkk K) : sk (some .int) (bd_211 Z K F) := by
  unfold bd_211
  exact (sk_seq (sk_deci xk_p) (sk_seq (sk_deci xk_p) (sk_seq (sk_scope (sk_seq (sk_deci xk_p) (sk_whl xk_p (sk_seq (sk_seq (sk_seti xk_p) (sk_seti xk_p)) sk_inc)))) (sk_sw xk_p (ska_cons (sk_reti xk_p) (ska_cons (sk_reti xk_p) (ska_cons (sk_reti xk_p) (ska_cons (sk_reti xk_p) (ska_cons (sk_reti xk_p) (ska_cons (sk_reti xk_p) (ska_cons (sk_reti xk_p) (ska_cons (sk_reti xk_p) (ska_cons (sk_reti xk_p) (ska_cons (sk_reti xk_p) ska_nil)))))))))) (sk_reti xk_p)))))
theorem sb_212 {Z : List ZD} {K : ZKt} {F : ZFt} (hK : kkk K) : sk (some .int) (bd_212 Z K F) := by
  unfold bd_212
  exact (sk_reti xk_p)
theorem sb_213 {Z : List ZD} {K : ZKt} {F : ZFt} (hK : kkk K) : sk (none) (bd_213 Z K F) := by
  unfold bd_213
  exact (sk_seq (sk_putl xk_p) sk_retv)
theorem sb_214 {Z : List ZD} {K : ZKt} {F : ZFt} (hK : kkk K) : sk (none) (bd_214 Z K F) := by
  unfold bd_214
  exact (sk_seq (sk_seq (sk_scope (sk_seq (sk_deci xk_p) (sk_whl xk_p (sk_seq (sk_seq (sk_cv hK) (sk_seq (sk_cv hK) (sk_seq (sk_cv hK) (sk_seq (sk_cv hK) (sk_scope (sk_seq (sk_deci xk_p) (sk_whl xk_p (sk_seq (sk_cv hK) sk_inc)))))))) sk_inc)))) (sk_seq (sk_scope (sk_seq (sk_deci xk_p) (sk_whl xk_p (sk_seq (sk_seq (sk_cv hK) (sk_cv hK)) sk_inc)))) (sk_seq (sk_scope (sk_seq (sk_deci xk_p) (sk_whl xk_p (sk_seq (sk_scope (sk_seq (sk_deci xk_p) (sk_whl xk_p (sk_seq (sk_cv hK) sk_inc)))) sk_inc)))) (sk_seq (sk_scope (sk_seq (sk_deci xk_p) (sk_whl xk_p (sk_seq (sk_seq (sk_cv hK) (sk_seq (sk_cv hK) (sk_seq (sk_cv hK) (sk_cv hK)))) sk_inc)))) (sk_scope (sk_seq (sk_deci xk_p) (sk_whl xk_p (sk_seq (sk_seq (sk_scope (sk_seq (sk_deci xk_p) (sk_whl xk_p (sk_seq (sk_cv hK) sk_inc)))) (sk_cv hK)) sk_inc)))))))) sk_retv)
theorem sb_215 {Z : List ZD} {K : ZKt} {F : ZFt} (hK : kkk K) : sk (some .long) (bd_215 Z K F) := by
  unfold bd_215
  exact (sk_seq (sk_putl xk_p) (sk_seq (sk_cv hK) (sk_seq (sk_scope (sk_seq (sk_deci xk_p) (sk_whl xk_p (sk_seq (sk_seq (sk_cv hK) (sk_seq (sk_scope (sk_seq (sk_deci xk_p) (sk_whl xk_p (sk_seq (sk_seq (sk_cv hK) (sk_cv hK)) sk_inc)))) (sk_scope (sk_seq (sk_deci xk_p) (sk_whl xk_p (sk_seq (sk_cv hK) sk_inc)))))) sk_inc)))) (sk_seq (sk_scope (sk_seq (sk_deci xk_p) (sk_whl xk_p (sk_seq (sk_seq (sk_cv hK) (sk_cv hK)) sk_inc)))) (sk_seq (sk_scope (sk_seq (sk_deci xk_p) (sk_whl xk_p (sk_seq (sk_seq (sk_cv hK) (sk_scope (sk_seq (sk_deci xk_p) (sk_whl xk_p (sk_seq (sk_cv hK) sk_inc))))) sk_inc)))) (sk_seq (sk_scope (sk_seq (sk_deci xk_p) (sk_whl xk_p (sk_seq (sk_cv hK) sk_inc)))) (sk_seq (sk_scope (sk_seq (sk_deci xk_p) (sk_whl xk_p (sk_seq (sk_cv hK) sk_inc)))) (sk_seq (sk_scope (sk_seq (sk_deci xk_p) (sk_whl xk_p (sk_seq (sk_cv hK) sk_inc)))) (sk_seq (sk_scope (sk_seq (sk_deci xk_p) (sk_whl xk_p (sk_seq (sk_cv hK) sk_inc)))) (sk_retl xk_p))))))))))
theorem sb_216 {Z : List ZD} {K : ZKt} {F : ZFt} (hK : kkk K) : sk (some .int) (bd_216 Z K F) := by
  unfold bd_216
  exact (sk_reti xk_p)
theorem sb_217 {Z : List ZD} {K : ZKt} {F : ZFt} (hK : kkk K) : sk (some .int) (bd_217 Z K F) := by
  unfold bd_217
  exact (sk_seq (sk_seti xk_p) (sk_seq (sk_seti xk_p) (sk_seq (sk_seti xk_p) (sk_seq (sk_seti xk_p) (sk_seq (sk_seti xk_p) (sk_reti xk_p))))))
theorem sb_218 {Z : List ZD} {K : ZKt} {F : ZFt} (hK : kkk K) : sk (none) (bd_218 Z K F) := by
  unfold bd_218
  exact (sk_seq (sk_seq (sk_deci xk_p) (sk_seq (sk_deci xk_p) (sk_whl xk_p (sk_seq sk_stl sk_inc)))) sk_retv)
theorem sb_219 {Z : List ZD} {K : ZKt} {F : ZFt} (hK : kkk K) : sk (none) (bd_219 Z K F) := by
  unfold bd_219
  exact (sk_seq (sk_seq (sk_deci xk_p) (sk_seq (sk_deci xk_p) (sk_whl xk_p (sk_seq (sk_st xk_p xk_p) sk_inc)))) sk_retv)
def zSK (Z : List ZD) (K : ZKt) (F : ZFt) : List ZI → List (List ZD → ZKt → ZFt → ZSt) → Prop
  | [], _ => True
  | _, [] => True
  | I :: Is, b :: bs => sk I.2.2.2 (b Z K F) ∧ zSK Z K F Is bs
theorem zSK_at {Z : List ZD} {K : ZKt} {F : ZFt} : ∀ {Is : List ZI} {bs : List (List ZD → ZKt → ZFt → ZSt)} {k : Nat} {I : ZI} {b : List ZD → ZKt → ZFt → ZSt}, zSK Z K F Is bs → Is[k]? = some I → bs[k]? = some b → sk I.2.2.2 (b Z K F) := by
  intro Is
  induction Is with
  | nil => intro bs k I b _ h; cases k <;> cases h
  | cons J Js ih =>
    intro bs k I b h h1 h2
    cases bs with
    | nil => cases k <;> cases h2
    | cons c cs =>
      cases k with
      | zero => cases h1; cases h2; exact h.1
      | succ k => exact ih h.2 (by simpa using h1) (by simpa using h2)
theorem zsk_all (Z : List ZD) {K : ZKt} (F : ZFt) (hK : kkk K) : zSK Z K F zinfoL bdL := ⟨sb_0 hK, sb_1 hK, sb_2 hK, sb_3 hK, sb_4 hK, sb_5 hK, sb_6 hK, sb_7 hK, sb_8 hK, sb_9 hK, sb_10 hK, sb_11 hK, sb_12 hK, sb_13 hK, sb_14 hK, sb_15 hK, sb_16 hK, sb_17 hK, sb_18 hK, sb_19 hK, sb_20 hK, sb_21 hK, sb_22 hK, sb_23 hK, sb_24 hK, sb_25 hK, sb_26 hK, sb_27 hK, sb_28 hK, sb_29 hK, sb_30 hK, sb_31 hK, sb_32 hK, sb_33 hK, sb_34 hK, sb_35 hK, sb_36 hK, sb_37 hK, sb_38 hK, sb_39 hK, sb_40 hK, sb_41 hK, sb_42 hK, sb_43 hK, sb_44 hK, sb_45 hK, sb_46 hK, sb_47 hK, sb_48 hK, sb_49 hK, sb_50 hK, sb_51 hK, sb_52 hK, sb_53 hK, sb_54 hK, sb_55 hK, sb_56 hK, sb_57 hK, sb_58 hK, sb_59 hK, sb_60 hK, sb_61 hK, sb_62 hK, sb_63 hK, sb_64 hK, sb_65 hK, sb_66 hK, sb_67 hK, sb_68 hK, sb_69 hK, sb_70 hK, sb_71 hK, sb_72 hK, sb_73 hK, sb_74 hK, sb_75 hK, sb_76 hK, sb_77 hK, sb_78 hK, sb_79 hK, sb_80 hK, sb_81 hK, sb_82 hK, sb_83 hK, sb_84 hK, sb_85 hK, sb_86 hK, sb_87 hK, sb_88 hK, sb_89 hK, sb_90 hK, sb_91 hK, sb_92 hK, sb_93 hK, sb_94 hK, sb_95 hK, sb_96 hK, sb_97 hK, sb_98 hK, sb_99 hK, sb_100 hK, sb_101 hK, sb_102 hK, sb_103 hK, sb_104 hK, sb_105 hK, sb_106 hK, sb_107 hK, sb_108 hK, sb_109 hK, sb_110 hK, sb_111 hK, sb_112 hK, sb_113 hK, sb_114 hK, sb_115 hK, sb_116 hK, sb_117 hK, sb_118 hK, sb_119 hK, sb_120 hK, sb_121 hK, sb_122 hK, sb_123 hK, sb_124 hK, sb_125 hK, sb_126 hK, sb_127 hK, sb_128 hK, sb_129 hK, sb_130 hK, sb_131 hK, sb_132 hK, sb_133 hK, sb_134 hK, sb_135 hK, sb_136 hK, sb_137 hK, sb_138 hK, sb_139 hK, sb_140 hK, sb_141 hK, sb_142 hK, sb_143 hK, sb_144 hK, sb_145 hK, sb_146 hK, sb_147 hK, sb_148 hK, sb_149 hK, sb_150 hK, sb_151 hK, sb_152 hK, sb_153 hK, sb_154 hK, sb_155 hK, sb_156 hK, sb_157 hK, sb_158 hK, sb_159 hK, sb_160 hK, sb_161 hK, sb_162 hK, sb_163 hK, sb_164 hK, sb_165 hK, sb_166 hK, sb_167 hK, sb_168 hK, sb_169 hK, sb_170 hK, sb_171 hK, sb_172 hK, sb_173 hK, sb_174 hK, sb_175 hK, sb_176 hK, sb_177 hK, sb_178 hK, sb_179 hK, sb_180 hK, sb_181 hK, sb_182 hK, sb_183 hK, sb_184 hK, sb_185 hK, sb_186 hK, sb_187 hK, sb_188 hK, sb_189 hK, sb_190 hK, sb_191 hK, sb_192 hK, sb_193 hK, sb_194 hK, sb_195 hK, sb_196 hK, sb_197 hK, sb_198 hK, sb_199 hK, sb_200 hK, sb_201 hK, sb_202 hK, sb_203 hK, sb_204 hK, sb_205 hK, sb_206 hK, sb_207 hK, sb_208 hK, sb_209 hK, sb_210 hK, sb_211 hK, sb_212 hK, sb_213 hK, sb_214 hK, sb_215 hK, sb_216 hK, sb_217 hK, sb_218 hK, sb_219 hK, trivial⟩
theorem kk_tok (Z : List ZD) (F : ZFt) : ∀ d k as μ (P : Option Value → ZM → Prop), (∀ v μ, tok (zinfo k).2.2.2 v → ¬ P v μ) → ¬ KK Z F d k as μ P := by
  intro d
  induction d with
  | zero => intro k as μ P _ h; exact h.elim
  | succ d ih =>
    intro k as μ P hP h
    obtain ⟨hw, hb⟩ := h
    cases hk : bdL[k]? with
    | none =>
      have : bdN k = zno := by unfold bdN; rw [List.getD_eq_getElem?_getD, hk]; rfl
      rw [this] at hb
      exact hb.elim
    | some b =>
      have hlt : k < zinfoL.length := by rw [zlenL]; exact (List.getElem?_eq_some_iff.mp hk).1
      have hI : zinfoL[k]? = some (zinfo k) := by
        unfold zinfo
        rw [List.getD_eq_getElem?_getD, List.getElem?_eq_getElem hlt]; rfl
      have hbk : bdN k = b := by unfold bdN; rw [List.getD_eq_getElem?_getD, hk]; rfl
      rw [hbk] at hb
      exact zSK_at (zsk_all Z F (fun k as μ P h => ih k as μ P (fun v μ _ => h v μ))) hI hk _ _ _ _ (fun _ h => h) hP (fun _ _ h => h) hb
theorem KK_tok {Z : List ZD} {F : ZFt} {d k : Nat} {as : List Value} {μ : ZM} {P : Option Value → ZM → Prop} (h : KK Z F d k as μ P) : ∃ v μ', tok (zinfo k).2.2.2 v ∧ P v μ' := Classical.byContradiction fun hn => kk_tok Z F d k as μ P (fun v μ' t q => hn ⟨v, μ', t, q⟩) h
