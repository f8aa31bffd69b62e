/-! LAYER B: pairs, the class settles a thing -/
theorem cn_rm1 {n a : Nat} {P : Nat → Bool} (ha : a < n) (h : P a = true) : cnB n P = cnB n (fun x => P x && !decide (x = a)) + 1 := cn_up (P := fun x => P x && !decide (x = a)) (Q := P) ha (by simp) h fun x _ hx => by simp [hx]
theorem cn_rm0 {n a : Nat} {P : Nat → Bool} (h : a < n → P a = false) : cnB n (fun x => P x && !decide (x = a)) = cnB n P := cn_c fun x hx => by
  by_cases e : x = a
  · rw [e, h (by omega)]
    rfl
  · simp [e]
/-- i and j a pair, those whom they had let go -/
def foP (pt : Nat → Nat) (i j : Nat) : Nat → Nat := fun x => if x = j then i else if x = i then j else if x = pt i ∨ x = pt j then 24 else pt x
section KP3
variable {n i j : Nat} {A B : Nat → Bool} {E : Nat → Nat → Bool} {S : Nat → Bool} {pt : Nat → Nat}
theorem s1_f {x : Nat} (h : adS (adS S i) j x = false) : S x = false ∧ x ≠ i ∧ x ≠ j := by
  have h1 := adS_f h
  have h2 := adS_f h1.1
  exact ⟨h2.1, h2.2, h1.2⟩
theorem s1_i {x : Nat} (h : S x = false) (h1 : x ≠ i) (h2 : x ≠ j) : adS (adS S i) j x = false := by rw [adS_ne h2, adS_ne h1]; exact h
theorem s1_o {x : Nat} (h : S x = true) : adS (adS S i) j x = true := adS_o (adS_o h)
theorem s1_1 : adS (adS S i) j i = true := adS_o adS_t
theorem s1_2 : adS (adS S i) j j = true := adS_t
theorem fo_pm (hG : GR n A B E) (hp : Pm n E pt) (hE : E i j = true) : Pm n E (foP pt i j) := by
  obtain ⟨g1, g2, g3, g4⟩ := hG.2.1 i j hE
  have g0 := hG.1
  have hij : i ≠ j := fun z => hG.2.2 j (by rw [← z]; exact g3) g4
  have qj : foP pt i j j = i := if_pos rfl
  have qi : foP pt i j i = j := by unfold foP; rw [if_neg hij, if_pos rfl]
  intro x hx
  by_cases e1 : x = j
  · rw [e1, qj, qi]
    exact Or.inr ⟨g1, rfl, Or.inr hE⟩
  by_cases e2 : x = i
  · rw [e2, qi, qj]
    exact Or.inr ⟨g2, rfl, Or.inl hE⟩
  by_cases e3 : x = pt i ∨ x = pt j
  · left
    unfold foP
    rw [if_neg e1, if_neg e2, if_pos e3]
  have qx : foP pt i j x = pt x := by unfold foP; rw [if_neg e1, if_neg e2, if_neg e3]
  rw [qx]
  refine (hp x hx).imp id fun ⟨h1, h2, h3⟩ => ⟨h1, ?_, h3⟩
  have n1 : pt x ≠ j := fun z => e3 (Or.inr (by rw [← z, h2]))
  have n2 : pt x ≠ i := fun z => e3 (Or.inl (by rw [← z, h2]))
  have n3 : ¬ (pt x = pt i ∨ pt x = pt j) := by
    rintro (z | z)
    · rcases hp i g1 with w | w
      · omega
      · exact e2 (by rw [← h2, z]; exact w.2.1)
    · rcases hp j g2 with w | w
      · omega
      · exact e1 (by rw [← h2, z]; exact w.2.1)
  show (if pt x = j then i else if pt x = i then j else if pt x = pt i ∨ pt x = pt j then 24 else pt (pt x)) = x
  rw [if_neg n1, if_neg n2, if_neg n3]
  exact h2
theorem fo_cs (hG : GR n A B E) (hp : Pm n E pt) (hc : Cs n S pt) (hE : E i j = true) : Cs n (adS (adS S i) j) (foP pt i j) := by
  intro x hx hS h24
  obtain ⟨s1, s2, s3⟩ := s1_f hS
  have qx : foP pt i j x = if x = pt i ∨ x = pt j then 24 else pt x := by unfold foP; rw [if_neg s3, if_neg s2]
  rw [qx] at h24 ⊢
  by_cases e3 : x = pt i ∨ x = pt j
  · rw [if_pos e3] at h24
    exact absurd rfl h24
  · rw [if_neg e3] at h24 ⊢
    obtain ⟨h1, h2, h3⟩ := (hp x hx).resolve_left h24
    exact s1_i (hc x hx s1 h24) (fun z => e3 (Or.inl (by rw [← z, h2]))) (fun z => e3 (Or.inr (by rw [← z, h2])))
theorem fo_sz (hG : GR n A B E) (hp : Pm n E pt) (hc : Cs n S pt) (hE : E i j = true) (hSi : S i = false) (hSj : S j = false) (hne : pt i ≠ j) : (pt i ≠ 24 → pt j ≠ 24 → szF n (fR A (adS (adS S i) j) (foP pt i j)) + 2 = szF n (fR A S pt)) ∧ (pt i = 24 ∨ pt j = 24 → szF n (fR A S pt) ≤ szF n (fR A (adS (adS S i) j) (foP pt i j)) + 1) := by
  obtain ⟨g1, g2, g3, g4⟩ := hG.2.1 i j hE
  have g0 := hG.1
  have hij : i ≠ j := fun z => hG.2.2 j (by rw [← z]; exact g3) g4
  have hjl : pt j ≠ i := fun z => by
    rcases hp j g2 with w | w
    · omega
    · rw [z] at w
      exact hne w.2.1
  have e1 : szF n (fR A (adS (adS S i) j) (foP pt i j)) = cnB n (fun a => (!decide (fR A S pt a = 24) && !decide (a = i)) && !decide (a = pt j)) := by
    refine cn_c fun a ha => ?_
    cases hA : A a with
    | false => rw [fR_n (Or.inl hA), fR_n (Or.inl hA)]; rfl
    | true =>
      have haj : a ≠ j := fun z => hG.2.2 a hA (by rw [z]; exact g4)
      cases hS : adS (adS S i) j a with
      | true =>
        rw [fR_n (Or.inr hS)]
        by_cases e : a = i
        · rw [e]; simp
        · rw [adS_ne haj, adS_ne e] at hS
          rw [fR_n (Or.inr hS)]
          simp
      | false =>
        obtain ⟨s1, s2, s3⟩ := s1_f hS
        rw [fR_y hA hS, fR_y hA s1]
        have hai : a ≠ pt i := fun z => by
          rcases hp i g1 with w | w
          · omega
          · have hh := edg_A hG w.2.2 g3
            exact hG.2.2 a hA (by rw [z]; exact (hG.2.1 _ _ hh).2.2.2)
        by_cases e : a = pt j
        · have : foP pt i j a = 24 := by unfold foP; rw [if_neg s3, if_neg s2, if_pos (Or.inr e)]
          rw [this, decide_eq_true e, decide_eq_true rfl]
          simp
        · have : foP pt i j a = pt a := by unfold foP; rw [if_neg s3, if_neg s2, if_neg (fun z => z.elim hai e)]
          rw [this, decide_eq_false s2, decide_eq_false e]
          simp
  have hi : fR A S pt i = pt i := fR_y g3 hSi
  have hl : pt j ≠ 24 → pt j < n ∧ fR A S pt (pt j) = j ∧ (!decide (fR A S pt (pt j) = 24) && !decide (pt j = i)) = true := fun z => by
    obtain ⟨w1, w2, w3⟩ := (hp j g2).resolve_left z
    have hh := edg_B hG w3 g4
    have hf : fR A S pt (pt j) = j := by rw [fR_y (hG.2.1 _ _ hh).2.2.1 (hc j g2 hSj z)]; exact w2
    refine ⟨w1, hf, ?_⟩
    rw [hf, decide_eq_false hjl]
    simp
    omega
  rw [e1]
  unfold szF
  refine ⟨fun h1 h2 => ?_, fun h => ?_⟩
  · obtain ⟨w1, w2, w3⟩ := hl h2
    rw [cn_rm1 (P := fun a => !decide (fR A S pt a = 24)) g1 (by rw [hi]; simp [h1]), cn_rm1 (P := fun a => !decide (fR A S pt a = 24) && !decide (a = i)) w1 w3]
  · by_cases h2 : pt j = 24
    · have e2 : cnB n (fun a => (!decide (fR A S pt a = 24) && !decide (a = i)) && !decide (a = pt j)) = cnB n (fun a => !decide (fR A S pt a = 24) && !decide (a = i)) := cn_rm0 (P := fun a => !decide (fR A S pt a = 24) && !decide (a = i)) fun z => by omega
      rw [e2]
      by_cases h1 : pt i = 24
      · have := cn_rm0 (n := n) (a := i) (P := fun a => !decide (fR A S pt a = 24)) fun _ => by rw [hi, h1]; rfl
        omega
      · have := cn_rm1 (P := fun a => !decide (fR A S pt a = 24)) g1 (by rw [hi]; simp [h1])
        omega
    · have h1 : pt i = 24 := h.resolve_right h2
      obtain ⟨w1, w2, w3⟩ := hl h2
      have a1 := cn_rm0 (n := n) (a := i) (P := fun a => !decide (fR A S pt a = 24)) fun _ => by rw [hi, h1]; rfl
      have a2 := cn_rm1 (P := fun a => !decide (fR A S pt a = 24) && !decide (a = i)) w1 w3
      omega
/-- i has j: that is as good as it can be -/
theorem ha_sz (hG : GR n A B E) (hp : Pm n E pt) (hc : Cs n S pt) (hE : E i j = true) (hSi : S i = false) (hSj : S j = false) (hpt : pt i = j) : Cs n (adS (adS S i) j) pt ∧ szF n (fR A S pt) ≤ szF n (fR A (adS (adS S i) j) pt) + 1 := by
  obtain ⟨g1, g2, g3, g4⟩ := hG.2.1 i j hE
  have g0 := hG.1
  obtain ⟨w1, w2, w3⟩ := (hp i g1).resolve_left (by omega)
  rw [hpt] at w2
  refine ⟨fun x hx hS h24 => ?_, ?_⟩
  · obtain ⟨s1, s2, s3⟩ := s1_f hS
    obtain ⟨h1, h2, h3⟩ := (hp x hx).resolve_left h24
    exact s1_i (hc x hx s1 h24) (fun z => s3 (by rw [← h2, z, hpt])) (fun z => s2 (by rw [← h2, z, w2]))
  · have e1 : szF n (fR A (adS (adS S i) j) pt) = cnB n (fun a => !decide (fR A S pt a = 24) && !decide (a = i)) := by
      refine cn_c fun a ha => ?_
      cases hA : A a with
      | false => rw [fR_n (Or.inl hA), fR_n (Or.inl hA)]; rfl
      | true =>
        have haj : a ≠ j := fun z => hG.2.2 a hA (by rw [z]; exact g4)
        by_cases e : a = i
        · rw [e, fR_n (Or.inr s1_1)]
          simp
        · cases hS : S a with
          | true => rw [fR_n (Or.inr hS), fR_n (Or.inr (s1_o hS))]; rfl
          | false =>
            rw [fR_y hA hS, fR_y hA (s1_i hS e haj), decide_eq_false e]
            simp
    have hi : fR A S pt i = pt i := fR_y g3 hSi
    have := cn_rm1 (P := fun a => !decide (fR A S pt a = 24)) g1 (by rw [hi, hpt]; simp; omega)
    rw [e1]
    unfold szF
    omega
end KP3
section KP4
variable {F : ZFt} {d : Nat} {μ ν : ZM} {P : Option Value → ZM → Prop} {n i j : Nat} {st : Int32} {A B : Nat → Bool} {E : Nat → Nat → Bool} {S : Nat → Bool} {pt : Nat → Nat}
/-- what the class may touch while it settles: the rows 120 to 123 -/
def kpX (μ μ' : ZM) : Prop := ∀ x, x < 120 ∨ 123 < x → μ'.1 x = μ.1 x
theorem FX.keep {μ' : ZM} (h : FX μ n A E) (g : kpX μ μ') : FX μ' n A E := by
  unfold FX at h ⊢
  rw [g 117 (by omega), g 118 (by omega), g 119 (by omega)]
  exact h
theorem k65 (hpa : Fpa F) (hG : GR n A B E) (hF : FX μ n A E) (hp : Pm n E pt) (hc : Cs n S pt) (hE : E i j = true) (hSi : S i = false) (hSj : S j = false) (hne : pt i ≠ j) (hmx : mxM n E S (szF n (fR A S pt))) (hpx : ∀ x, x < 24 → μ.1 120 x = enc (pt x)) (hst : ∀ j, j < 24 → bt st j = S j)
    (hyes : ∀ pt' μ', Pm n E pt' → Cs n (adS (adS S i) j) pt' → mxM n E (adS (adS S i) j) (szF n (fR A (adS (adS S i) j) pt')) → szF n (fR A (adS (adS S i) j) pt') + 1 = szF n (fR A S pt) → pt' i = j → (∀ x, x < n → S x = true → pt' x = pt x) → kpX μ μ' → (∀ x, x < 24 → μ'.1 120 x = enc (pt' x)) → P (some (.int 1)) μ')
    (hno : ∀ l μ', mxM n E (adS (adS S i) j) l → l + 1 ≠ szF n (fR A S pt) → kpX μ μ' → (∀ x, x < 24 → μ'.1 120 x = enc (pt x)) → P (some (.int 0)) μ') : KK Zx F (d + 4) 65 [.ref 117, .int (nI i), .int (nI j), .int st] μ P := by
  obtain ⟨g1, g2, g3, g4⟩ := hG.2.1 i j hE
  have hn := hG.1
  have i24 : i < 24 := by omega
  have j24 : j < 24 := by omega
  have hneg : ((0 : Int32) ≤ -1) = False := eq_false (by decide)
  have c24 : Int32.toNatClampNeg 24 = 24 := by decide
  have n24 : ((24 : Int32) < 0) = False := eq_false (by decide)
  have hij : i ≠ j := fun z => hG.2.2 j (by rw [← z]; exact g3) g4
  have hpm1 := fo_pm hG hp hE
  have hcs1 := fo_cs hG hp hc hE
  obtain ⟨hs1, hs2⟩ := fo_sz hG hp hc hE hSi hSj hne
  have ei := hpx i i24
  have ej := hpx j j24
  have hSame : ∀ x, x < n → S x = true → foP pt i j x = pt x := fun x hx hS => by
    have n1 : x ≠ j := fun z => by rw [z, hSj] at hS; cases hS
    have n2 : x ≠ i := fun z => by rw [z, hSi] at hS; cases hS
    have n3 : ¬ (x = pt i ∨ x = pt j) := by
      rintro (z | z)
      · have := hc i g1 hSi (by omega)
        rw [← z, hS] at this
        cases this
      · have := hc j g2 hSj (by omega)
        rw [← z, hS] at this
        cases this
    unfold foP
    rw [if_neg n1, if_neg n2, if_neg n3]
  have hfi : foP pt i j i = j := by unfold foP; rw [if_neg hij, if_pos rfl]
  -- the row behind the four stores
  have hrow : ∀ μ1 : ZM, (∀ x, x < 24 → μ1.1 120 x = if x = pt i ∨ x = pt j then -1 else enc (pt x)) → ∀ x, x < 24 → (zset (zset μ1 120 i (nI j)) 120 j (nI i)).1 120 x = enc (foP pt i j x) := fun μ1 h1 x hx => by
    rw [zs_eq]
    unfold foP
    by_cases e1 : x = j
    · rw [e1, zu_eq, if_pos rfl, enc_lt i24]
    · rw [zu_ne e1, zs_eq, if_neg e1]
      by_cases e2 : x = i
      · rw [e2, zu_eq, if_pos rfl, enc_lt j24]
      · rw [zu_ne e2, if_neg e2, h1 x hx]
        by_cases e3 : x = pt i ∨ x = pt j
        · rw [if_pos e3, if_pos e3, enc_24]
        · rw [if_neg e3, if_neg e3]
  have hcp : ∀ x, x < 24 → (zcpy μ 120 121 24).1 120 x = enc (pt x) := fun x hx => by rw [zcp_ne (by omega)]; exact hpx x hx
  by_cases h1 : pt i = 24
  · have ei : μ.1 120 i = -1 := by rw [ei, h1]; exact enc_24
    obtain ⟨hm1, hm2⟩ := mx_yes hG hE hSi hSj hmx (mf_fR hG hpm1 hcs1) (hs2 (Or.inl h1))
    by_cases h2 : pt j = 24
    · have ej : μ.1 120 j = -1 := by rw [ej, h2]; exact enc_24
      have hfin := hyes _ (zset (zset (zcpy μ 120 121 24) 120 i (nI j)) 120 j (nI i)) hpm1 hcs1 hm1 hm2 hfi hSame (fun x hx => by rw [zs_ne (by omega), zs_ne (by omega), zcp_ne (by omega)]) (hrow _ fun x hx => by rw [hcp x hx, if_neg (by omega)])
      refine KK_in bd_65 rfl (Nat.le_of_ble_eq_true rfl) ?_; simp (disch := first | omega | (simp (disch := omega) only [forall_eq', Value.category, or_true, true_or, Option.isSome_some, Option.getD_some, true_and, and_true, and_self, forall_const, reduceCtorEq, Bool.false_eq_true, ite_true, ite_false, reduceIte, Nat.reduceLT, Nat.reduceLeDiff, Nat.reduceEqDiff, Nat.reduceAdd, Nat.reduceMul, decide_true, decide_false, Bool.true_and, Bool.and_true, Bool.false_and, Bool.and_false, Bool.or_false, Bool.false_or, not_true_eq_false, not_false_eq_true, Classical.not_not, false_implies, implies_true, decide_eq_true_eq, decide_eq_false_iff_not, Bool.not_eq_true, Bool.not_eq_false, Bool.not_eq_eq_eq_not, Bool.and_eq_true, Bool.or_eq_true, Bool.not_true, Bool.not_false, exists_eq_left, Option.some.injEq, Value.int.injEq, Value.long.injEq, Value.ref.injEq, zofN, znr0, zvpN, nI_clamp, nI_ltI, nI_leI, nI_eq, nI_a1, zN_lt, zN_le, zN_gt, zN_ge, zN_eq, zN_m1, Nat.zero_le, zLE, zi_eq0, zi01b, zi01c, zlast, i24, j24, ei, ej, hneg, c24, n24])) only [bd_65, sSeq, sIf, sSkip, sDecI, sDecL, sDecR, sSetI, sSetL, sInc, sRetI, sRetZ, sRetL, sRetR, sRetV, sScope, sPut, sPutL, sUpd, sSt, sStL, sStU, sStUL, sCpy, sCpyL, sCS, sCV, sSw, zsw, sBrk, xP, xCS, xCV, xNz, xI, xAnd, xOr, xNot, xT, xB, xInc, xPre, xIncL, xEq, eK, eV, eW, eR, eB, eU, eD, eT, eI, eAnd, eOr, eNot, eF, eFL, eFR, eA, eAL, eAR, eN, eCS, eCV, aN, aI, aL, aR, zen, zli, zlj, zlr, zob, rdI, rdL, rdR, zfk, List.cons_append, List.nil_append, List.set_cons_zero, List.set_cons_succ, List.take_succ_cons, List.take_zero, List.length_cons, List.length_nil, List.getElem?_cons_zero, List.getElem?_cons_succ, forall_eq', Value.category, or_true, true_or, Option.isSome_some, Option.getD_some, true_and, and_true, and_self, forall_const, reduceCtorEq, Bool.false_eq_true, ite_true, ite_false, reduceIte, Nat.reduceLT, Nat.reduceLeDiff, Nat.reduceEqDiff, Nat.reduceAdd, Nat.reduceMul, decide_true, decide_false, Bool.true_and, Bool.and_true, Bool.false_and, Bool.and_false, Bool.or_false, Bool.false_or, not_true_eq_false, not_false_eq_true, Classical.not_not, false_implies, implies_true, decide_eq_true_eq, decide_eq_false_iff_not, Bool.not_eq_true, Bool.not_eq_false, Bool.not_eq_eq_eq_not, Bool.and_eq_true, Bool.or_eq_true, Bool.not_true, Bool.not_false, exists_eq_left, Option.some.injEq, Value.int.injEq, Value.long.injEq, Value.ref.injEq, zFx0, zFx1, zFx2, zFx3, zFx4, zFx5, zFx6, zFx7, zFx8, zFx9, zFx10, zFx11, zFx12, zFx13, zFx14, zFm0, zFm1, zFm2, zFm3, zFm4, zofN, znr0, zvpN, nI_clamp, nI_ltI, nI_leI, nI_eq, nI_a1, zN_lt, zN_le, zN_gt, zN_ge, zN_eq, zN_m1, Nat.zero_le, zLE, zi_eq0, zi01b, zi01c, zlast, hpa.f69, hpa.f70, hpa.f49, hpa.f50, hpa.f51, hpa.f52, hpa.f195, hpa.f197, hpa.f160, hpa.f24, hpa.f25, hpa.f9, hpa.f18, hpa.f19, hpa.f56, hpa.f57, hpa.f134, hpa.f133, hpa.f20, hpa.f10, hpa.f88, hpa.f45, hpa.f78, hpa.f53, hpa.f32, hpa.f74, hpa.f61, hpa.f34, hpa.f127, hpa.f211, hpa.f73, hpa.f72, hpa.f209, hpa.f216, hpa.f29, hpa.f31, hpa.f30, hpa.f28, hpa.f27, hpa.f204, hpa.f205, hpa.f76, hpa.f77, hpa.f217, hpa.f187, hpa.f43, hpa.f42, hpa.f44, hpa.f186, hpa.f188, hpa.f35, hpa.f36, hpa.f37, hpa.f178, hpa.f180, hpa.f1, hpa.f2, hpa.f3, hpa.f4, hpa.f5, hpa.f153, hpa.f154, hpa.f155, hpa.f156, hpa.f157, hpa.f164, hpa.f165, hpa.f166, hpa.f81, hpa.f84, hpa.f85, hpa.f86, hpa.f87, hpa.f137, hpa.f175, hpa.f174, hpa.f191, hpa.f11, hpa.f12, hpa.f13, hpa.f14, hpa.f15, hpa.f16, hpa.f17, hpa.f80, hpa.f138, hpa.f141, hpa.f143, hpa.f145, hpa.f129, hpa.f130, hpa.f132, hpa.f135, hpa.f136, k129, k130, k132, k135, k11, k12, zset_self, k136 hpa.a, k143 hpa.dr, k174 hpa.dr, k191 hpa.dr, i24, j24, ei, ej, hneg, c24, n24]
      exact ⟨hfin, fun z => absurd z (by simp)⟩
    · have l24 : pt j < 24 := by have := (hp j g2).resolve_left h2; omega
      have ej : μ.1 120 j = nI (pt j) := by rw [ej]; exact enc_lt l24
      have hfin := hyes _ (zset (zset (zset (zcpy μ 120 121 24) 120 (pt j) (-1)) 120 i (nI j)) 120 j (nI i)) hpm1 hcs1 hm1 hm2 hfi hSame (fun x hx => by rw [zs_ne (by omega), zs_ne (by omega), zs_ne (by omega), zcp_ne (by omega)]) (hrow _ fun x hx => by
        rw [zs_eq]
        by_cases e : x = pt j
        · rw [e, zu_eq, if_pos (Or.inr rfl)]
        · rw [zu_ne e, hcp x hx, if_neg (by omega)])
      refine KK_in bd_65 rfl (Nat.le_of_ble_eq_true rfl) ?_; simp (disch := first | omega | (simp (disch := omega) only [forall_eq', Value.category, or_true, true_or, Option.isSome_some, Option.getD_some, true_and, and_true, and_self, forall_const, reduceCtorEq, Bool.false_eq_true, ite_true, ite_false, reduceIte, Nat.reduceLT, Nat.reduceLeDiff, Nat.reduceEqDiff, Nat.reduceAdd, Nat.reduceMul, decide_true, decide_false, Bool.true_and, Bool.and_true, Bool.false_and, Bool.and_false, Bool.or_false, Bool.false_or, not_true_eq_false, not_false_eq_true, Classical.not_not, false_implies, implies_true, decide_eq_true_eq, decide_eq_false_iff_not, Bool.not_eq_true, Bool.not_eq_false, Bool.not_eq_eq_eq_not, Bool.and_eq_true, Bool.or_eq_true, Bool.not_true, Bool.not_false, exists_eq_left, Option.some.injEq, Value.int.injEq, Value.long.injEq, Value.ref.injEq, zofN, znr0, zvpN, nI_clamp, nI_ltI, nI_leI, nI_eq, nI_a1, zN_lt, zN_le, zN_gt, zN_ge, zN_eq, zN_m1, Nat.zero_le, zLE, zi_eq0, zi01b, zi01c, zlast, i24, j24, ei, ej, hneg, c24, n24, l24])) only [bd_65, sSeq, sIf, sSkip, sDecI, sDecL, sDecR, sSetI, sSetL, sInc, sRetI, sRetZ, sRetL, sRetR, sRetV, sScope, sPut, sPutL, sUpd, sSt, sStL, sStU, sStUL, sCpy, sCpyL, sCS, sCV, sSw, zsw, sBrk, xP, xCS, xCV, xNz, xI, xAnd, xOr, xNot, xT, xB, xInc, xPre, xIncL, xEq, eK, eV, eW, eR, eB, eU, eD, eT, eI, eAnd, eOr, eNot, eF, eFL, eFR, eA, eAL, eAR, eN, eCS, eCV, aN, aI, aL, aR, zen, zli, zlj, zlr, zob, rdI, rdL, rdR, zfk, List.cons_append, List.nil_append, List.set_cons_zero, List.set_cons_succ, List.take_succ_cons, List.take_zero, List.length_cons, List.length_nil, List.getElem?_cons_zero, List.getElem?_cons_succ, forall_eq', Value.category, or_true, true_or, Option.isSome_some, Option.getD_some, true_and, and_true, and_self, forall_const, reduceCtorEq, Bool.false_eq_true, ite_true, ite_false, reduceIte, Nat.reduceLT, Nat.reduceLeDiff, Nat.reduceEqDiff, Nat.reduceAdd, Nat.reduceMul, decide_true, decide_false, Bool.true_and, Bool.and_true, Bool.false_and, Bool.and_false, Bool.or_false, Bool.false_or, not_true_eq_false, not_false_eq_true, Classical.not_not, false_implies, implies_true, decide_eq_true_eq, decide_eq_false_iff_not, Bool.not_eq_true, Bool.not_eq_false, Bool.not_eq_eq_eq_not, Bool.and_eq_true, Bool.or_eq_true, Bool.not_true, Bool.not_false, exists_eq_left, Option.some.injEq, Value.int.injEq, Value.long.injEq, Value.ref.injEq, zFx0, zFx1, zFx2, zFx3, zFx4, zFx5, zFx6, zFx7, zFx8, zFx9, zFx10, zFx11, zFx12, zFx13, zFx14, zFm0, zFm1, zFm2, zFm3, zFm4, zofN, znr0, zvpN, nI_clamp, nI_ltI, nI_leI, nI_eq, nI_a1, zN_lt, zN_le, zN_gt, zN_ge, zN_eq, zN_m1, Nat.zero_le, zLE, zi_eq0, zi01b, zi01c, zlast, hpa.f69, hpa.f70, hpa.f49, hpa.f50, hpa.f51, hpa.f52, hpa.f195, hpa.f197, hpa.f160, hpa.f24, hpa.f25, hpa.f9, hpa.f18, hpa.f19, hpa.f56, hpa.f57, hpa.f134, hpa.f133, hpa.f20, hpa.f10, hpa.f88, hpa.f45, hpa.f78, hpa.f53, hpa.f32, hpa.f74, hpa.f61, hpa.f34, hpa.f127, hpa.f211, hpa.f73, hpa.f72, hpa.f209, hpa.f216, hpa.f29, hpa.f31, hpa.f30, hpa.f28, hpa.f27, hpa.f204, hpa.f205, hpa.f76, hpa.f77, hpa.f217, hpa.f187, hpa.f43, hpa.f42, hpa.f44, hpa.f186, hpa.f188, hpa.f35, hpa.f36, hpa.f37, hpa.f178, hpa.f180, hpa.f1, hpa.f2, hpa.f3, hpa.f4, hpa.f5, hpa.f153, hpa.f154, hpa.f155, hpa.f156, hpa.f157, hpa.f164, hpa.f165, hpa.f166, hpa.f81, hpa.f84, hpa.f85, hpa.f86, hpa.f87, hpa.f137, hpa.f175, hpa.f174, hpa.f191, hpa.f11, hpa.f12, hpa.f13, hpa.f14, hpa.f15, hpa.f16, hpa.f17, hpa.f80, hpa.f138, hpa.f141, hpa.f143, hpa.f145, hpa.f129, hpa.f130, hpa.f132, hpa.f135, hpa.f136, k129, k130, k132, k135, k11, k12, zset_self, k136 hpa.a, k143 hpa.dr, k174 hpa.dr, k191 hpa.dr, i24, j24, ei, ej, hneg, c24, n24, l24]
      exact hfin
  · have k24 : pt i < 24 := by have := (hp i g1).resolve_left h1; omega
    have ei : μ.1 120 i = nI (pt i) := by rw [ei]; exact enc_lt k24
    by_cases h2 : pt j = 24
    · have ej : μ.1 120 j = -1 := by rw [ej, h2]; exact enc_24
      obtain ⟨hm1, hm2⟩ := mx_yes hG hE hSi hSj hmx (mf_fR hG hpm1 hcs1) (hs2 (Or.inr h2))
      have hfin := hyes _ (zset (zset (zset (zcpy μ 120 121 24) 120 (pt i) (-1)) 120 i (nI j)) 120 j (nI i)) hpm1 hcs1 hm1 hm2 hfi hSame (fun x hx => by rw [zs_ne (by omega), zs_ne (by omega), zs_ne (by omega), zcp_ne (by omega)]) (hrow _ fun x hx => by
        rw [zs_eq]
        by_cases e : x = pt i
        · rw [e, zu_eq, if_pos (Or.inl rfl)]
        · rw [zu_ne e, hcp x hx, if_neg (by omega)])
      refine KK_in bd_65 rfl (Nat.le_of_ble_eq_true rfl) ?_; simp (disch := first | omega | (simp (disch := omega) only [forall_eq', Value.category, or_true, true_or, Option.isSome_some, Option.getD_some, true_and, and_true, and_self, forall_const, reduceCtorEq, Bool.false_eq_true, ite_true, ite_false, reduceIte, Nat.reduceLT, Nat.reduceLeDiff, Nat.reduceEqDiff, Nat.reduceAdd, Nat.reduceMul, decide_true, decide_false, Bool.true_and, Bool.and_true, Bool.false_and, Bool.and_false, Bool.or_false, Bool.false_or, not_true_eq_false, not_false_eq_true, Classical.not_not, false_implies, implies_true, decide_eq_true_eq, decide_eq_false_iff_not, Bool.not_eq_true, Bool.not_eq_false, Bool.not_eq_eq_eq_not, Bool.and_eq_true, Bool.or_eq_true, Bool.not_true, Bool.not_false, exists_eq_left, Option.some.injEq, Value.int.injEq, Value.long.injEq, Value.ref.injEq, zofN, znr0, zvpN, nI_clamp, nI_ltI, nI_leI, nI_eq, nI_a1, zN_lt, zN_le, zN_gt, zN_ge, zN_eq, zN_m1, Nat.zero_le, zLE, zi_eq0, zi01b, zi01c, zlast, i24, j24, ei, ej, hneg, c24, n24, k24])) only [bd_65, sSeq, sIf, sSkip, sDecI, sDecL, sDecR, sSetI, sSetL, sInc, sRetI, sRetZ, sRetL, sRetR, sRetV, sScope, sPut, sPutL, sUpd, sSt, sStL, sStU, sStUL, sCpy, sCpyL, sCS, sCV, sSw, zsw, sBrk, xP, xCS, xCV, xNz, xI, xAnd, xOr, xNot, xT, xB, xInc, xPre, xIncL, xEq, eK, eV, eW, eR, eB, eU, eD, eT, eI, eAnd, eOr, eNot, eF, eFL, eFR, eA, eAL, eAR, eN, eCS, eCV, aN, aI, aL, aR, zen, zli, zlj, zlr, zob, rdI, rdL, rdR, zfk, List.cons_append, List.nil_append, List.set_cons_zero, List.set_cons_succ, List.take_succ_cons, List.take_zero, List.length_cons, List.length_nil, List.getElem?_cons_zero, List.getElem?_cons_succ, forall_eq', Value.category, or_true, true_or, Option.isSome_some, Option.getD_some, true_and, and_true, and_self, forall_const, reduceCtorEq, Bool.false_eq_true, ite_true, ite_false, reduceIte, Nat.reduceLT, Nat.reduceLeDiff, Nat.reduceEqDiff, Nat.reduceAdd, Nat.reduceMul, decide_true, decide_false, Bool.true_and, Bool.and_true, Bool.false_and, Bool.and_false, Bool.or_false, Bool.false_or, not_true_eq_false, not_false_eq_true, Classical.not_not, false_implies, implies_true, decide_eq_true_eq, decide_eq_false_iff_not, Bool.not_eq_true, Bool.not_eq_false, Bool.not_eq_eq_eq_not, Bool.and_eq_true, Bool.or_eq_true, Bool.not_true, Bool.not_false, exists_eq_left, Option.some.injEq, Value.int.injEq, Value.long.injEq, Value.ref.injEq, zFx0, zFx1, zFx2, zFx3, zFx4, zFx5, zFx6, zFx7, zFx8, zFx9, zFx10, zFx11, zFx12, zFx13, zFx14, zFm0, zFm1, zFm2, zFm3, zFm4, zofN, znr0, zvpN, nI_clamp, nI_ltI, nI_leI, nI_eq, nI_a1, zN_lt, zN_le, zN_gt, zN_ge, zN_eq, zN_m1, Nat.zero_le, zLE, zi_eq0, zi01b, zi01c, zlast, hpa.f69, hpa.f70, hpa.f49, hpa.f50, hpa.f51, hpa.f52, hpa.f195, hpa.f197, hpa.f160, hpa.f24, hpa.f25, hpa.f9, hpa.f18, hpa.f19, hpa.f56, hpa.f57, hpa.f134, hpa.f133, hpa.f20, hpa.f10, hpa.f88, hpa.f45, hpa.f78, hpa.f53, hpa.f32, hpa.f74, hpa.f61, hpa.f34, hpa.f127, hpa.f211, hpa.f73, hpa.f72, hpa.f209, hpa.f216, hpa.f29, hpa.f31, hpa.f30, hpa.f28, hpa.f27, hpa.f204, hpa.f205, hpa.f76, hpa.f77, hpa.f217, hpa.f187, hpa.f43, hpa.f42, hpa.f44, hpa.f186, hpa.f188, hpa.f35, hpa.f36, hpa.f37, hpa.f178, hpa.f180, hpa.f1, hpa.f2, hpa.f3, hpa.f4, hpa.f5, hpa.f153, hpa.f154, hpa.f155, hpa.f156, hpa.f157, hpa.f164, hpa.f165, hpa.f166, hpa.f81, hpa.f84, hpa.f85, hpa.f86, hpa.f87, hpa.f137, hpa.f175, hpa.f174, hpa.f191, hpa.f11, hpa.f12, hpa.f13, hpa.f14, hpa.f15, hpa.f16, hpa.f17, hpa.f80, hpa.f138, hpa.f141, hpa.f143, hpa.f145, hpa.f129, hpa.f130, hpa.f132, hpa.f135, hpa.f136, k129, k130, k132, k135, k11, k12, zset_self, k136 hpa.a, k143 hpa.dr, k174 hpa.dr, k191 hpa.dr, i24, j24, ei, ej, hneg, c24, n24, k24]
      exact hfin
    · have l24 : pt j < 24 := by have := (hp j g2).resolve_left h2; omega
      have ej : μ.1 120 j = nI (pt j) := by rw [ej]; exact enc_lt l24
      obtain ⟨μ1, hμ1⟩ : ∃ μ1, μ1 = zset (zset (zset (zset (zcpy μ 120 121 24) 120 (pt i) (-1)) 120 (pt j) (-1)) 120 i (nI j)) 120 j (nI i) := ⟨_, rfl⟩
      have hr1 : ∀ x, x < 24 → μ1.1 120 x = enc (foP pt i j x) := by
        rw [hμ1]
        refine hrow _ fun x hx => ?_
        rw [zs_eq]
        by_cases e : x = pt j
        · rw [e, zu_eq, if_pos (Or.inr rfl)]
        · rw [zu_ne e, zs_eq]
          by_cases e' : x = pt i
          · rw [e', zu_eq, if_pos (Or.inl rfl)]
          · rw [zu_ne e', hcp x hx, if_neg (by omega)]
      have hk1 : ∀ x, x ≠ 120 → x ≠ 121 → μ1.1 x = μ.1 x := fun x x1 x2 => by rw [hμ1, zs_ne x1, zs_ne x1, zs_ne x1, zs_ne x1, zcp_ne x2]
      have h121 : ∀ x, x < 24 → μ1.1 121 x = enc (pt x) := fun x hx => by
        rw [hμ1, zs_ne (by omega), zs_ne (by omega), zs_ne (by omega), zs_ne (by omega), zcp_eq, if_pos hx]
        exact hpx x hx
      have hF1 : FX μ1 n A E := hF.keep fun x hx => hk1 x (by omega) (by omega)
      obtain ⟨s1, hs1'⟩ : ∃ s1, s1 = st ||| (1 : Int32) <<< (nI i &&& 31) ||| (1 : Int32) <<< (nI j &&& 31) := ⟨_, rfl⟩
      have hst1 : ∀ k, k < 24 → bt s1 k = adS (adS S i) j k := fun k hk => by
        rw [hs1', b_or, b_or, hst k hk, bt_s i24 hk, bt_s j24 hk]
        rfl
      have hY : ∀ pt' a μ', Au n A E (adS (adS S i) j) (fun _ => false) (foP pt i j) pt' a → (∀ x, x ≠ 120 → x ≠ 122 → x ≠ 123 → μ'.1 x = μ1.1 x) → (∀ x, x < 24 → μ'.1 120 x = enc (pt' x)) → P (some (.int 1)) μ' := fun pt' a μ' hAu q1 q2 => by
        obtain ⟨u1, u2, u3, u4, u5, u6⟩ := id hAu
        have hsz := au_sz hAu
        have hs3 := hs1 h1 h2
        obtain ⟨hm1, hm2⟩ := mx_yes hG hE hSi hSj hmx (mf_fR hG u1 u2) (by omega)
        exact hyes pt' μ' u1 u2 hm1 hm2 (by rw [u3 i (Or.inl s1_1)]; exact hfi) (fun x hx hS => by rw [u3 x (Or.inl (s1_o hS))]; exact hSame x hx hS) (fun x hx => by rw [q1 x (by omega) (by omega) (by omega), hk1 x (by omega) (by omega)]) q2
      have hN : ∀ μ', mxM n E (adS (adS S i) j) (szF n (fR A (adS (adS S i) j) (foP pt i j))) → (∀ x, x ≠ 122 → x ≠ 123 → μ'.1 x = μ1.1 x) → P (some (.int 0)) (zcpy μ' 121 120 24) := fun μ' hm q1 => by
        have hs3 := hs1 h1 h2
        refine hno _ _ hm (by omega) (fun x hx => by rw [zcp_ne (by omega), q1 x (by omega) (by omega), hk1 x (by omega) (by omega)]) fun x hx => ?_
        rw [zcp_eq, if_pos hx, q1 121 (by omega) (by omega)]
        exact h121 x hx
      refine KK_in bd_65 rfl (Nat.le_of_ble_eq_true rfl) ?_; simp (disch := first | omega | (simp (disch := omega) only [forall_eq', Value.category, or_true, true_or, Option.isSome_some, Option.getD_some, true_and, and_true, and_self, forall_const, reduceCtorEq, Bool.false_eq_true, ite_true, ite_false, reduceIte, Nat.reduceLT, Nat.reduceLeDiff, Nat.reduceEqDiff, Nat.reduceAdd, Nat.reduceMul, decide_true, decide_false, Bool.true_and, Bool.and_true, Bool.false_and, Bool.and_false, Bool.or_false, Bool.false_or, not_true_eq_false, not_false_eq_true, Classical.not_not, false_implies, implies_true, decide_eq_true_eq, decide_eq_false_iff_not, Bool.not_eq_true, Bool.not_eq_false, Bool.not_eq_eq_eq_not, Bool.and_eq_true, Bool.or_eq_true, Bool.not_true, Bool.not_false, exists_eq_left, Option.some.injEq, Value.int.injEq, Value.long.injEq, Value.ref.injEq, zofN, znr0, zvpN, nI_clamp, nI_ltI, nI_leI, nI_eq, nI_a1, zN_lt, zN_le, zN_gt, zN_ge, zN_eq, zN_m1, Nat.zero_le, zLE, zi_eq0, zi01b, zi01c, zlast, i24, j24, ei, ej, hneg, c24, n24, k24, l24, ← hμ1, ← hs1'])) only [bd_65, sSeq, sIf, sSkip, sDecI, sDecL, sDecR, sSetI, sSetL, sInc, sRetI, sRetZ, sRetL, sRetR, sRetV, sScope, sPut, sPutL, sUpd, sSt, sStL, sStU, sStUL, sCpy, sCpyL, sCS, sCV, sSw, zsw, sBrk, xP, xCS, xCV, xNz, xI, xAnd, xOr, xNot, xT, xB, xInc, xPre, xIncL, xEq, eK, eV, eW, eR, eB, eU, eD, eT, eI, eAnd, eOr, eNot, eF, eFL, eFR, eA, eAL, eAR, eN, eCS, eCV, aN, aI, aL, aR, zen, zli, zlj, zlr, zob, rdI, rdL, rdR, zfk, List.cons_append, List.nil_append, List.set_cons_zero, List.set_cons_succ, List.take_succ_cons, List.take_zero, List.length_cons, List.length_nil, List.getElem?_cons_zero, List.getElem?_cons_succ, forall_eq', Value.category, or_true, true_or, Option.isSome_some, Option.getD_some, true_and, and_true, and_self, forall_const, reduceCtorEq, Bool.false_eq_true, ite_true, ite_false, reduceIte, Nat.reduceLT, Nat.reduceLeDiff, Nat.reduceEqDiff, Nat.reduceAdd, Nat.reduceMul, decide_true, decide_false, Bool.true_and, Bool.and_true, Bool.false_and, Bool.and_false, Bool.or_false, Bool.false_or, not_true_eq_false, not_false_eq_true, Classical.not_not, false_implies, implies_true, decide_eq_true_eq, decide_eq_false_iff_not, Bool.not_eq_true, Bool.not_eq_false, Bool.not_eq_eq_eq_not, Bool.and_eq_true, Bool.or_eq_true, Bool.not_true, Bool.not_false, exists_eq_left, Option.some.injEq, Value.int.injEq, Value.long.injEq, Value.ref.injEq, zFx0, zFx1, zFx2, zFx3, zFx4, zFx5, zFx6, zFx7, zFx8, zFx9, zFx10, zFx11, zFx12, zFx13, zFx14, zFm0, zFm1, zFm2, zFm3, zFm4, zofN, znr0, zvpN, nI_clamp, nI_ltI, nI_leI, nI_eq, nI_a1, zN_lt, zN_le, zN_gt, zN_ge, zN_eq, zN_m1, Nat.zero_le, zLE, zi_eq0, zi01b, zi01c, zlast, hpa.f69, hpa.f70, hpa.f49, hpa.f50, hpa.f51, hpa.f52, hpa.f195, hpa.f197, hpa.f160, hpa.f24, hpa.f25, hpa.f9, hpa.f18, hpa.f19, hpa.f56, hpa.f57, hpa.f134, hpa.f133, hpa.f20, hpa.f10, hpa.f88, hpa.f45, hpa.f78, hpa.f53, hpa.f32, hpa.f74, hpa.f61, hpa.f34, hpa.f127, hpa.f211, hpa.f73, hpa.f72, hpa.f209, hpa.f216, hpa.f29, hpa.f31, hpa.f30, hpa.f28, hpa.f27, hpa.f204, hpa.f205, hpa.f76, hpa.f77, hpa.f217, hpa.f187, hpa.f43, hpa.f42, hpa.f44, hpa.f186, hpa.f188, hpa.f35, hpa.f36, hpa.f37, hpa.f178, hpa.f180, hpa.f1, hpa.f2, hpa.f3, hpa.f4, hpa.f5, hpa.f153, hpa.f154, hpa.f155, hpa.f156, hpa.f157, hpa.f164, hpa.f165, hpa.f166, hpa.f81, hpa.f84, hpa.f85, hpa.f86, hpa.f87, hpa.f137, hpa.f175, hpa.f174, hpa.f191, hpa.f11, hpa.f12, hpa.f13, hpa.f14, hpa.f15, hpa.f16, hpa.f17, hpa.f80, hpa.f138, hpa.f141, hpa.f143, hpa.f145, hpa.f129, hpa.f130, hpa.f132, hpa.f135, hpa.f136, k129, k130, k132, k135, k11, k12, zset_self, k136 hpa.a, k143 hpa.dr, k174 hpa.dr, k191 hpa.dr, i24, j24, ei, ej, hneg, c24, n24, k24, l24, ← hμ1, ← hs1']
      refine k66 (d := d) (st := s1) (S := adS (adS S i) j) (pt := foP pt i j) hpa hG hF1 hpm1 hcs1 hr1 hst1 (fun pt' a μ' hAu q1 q2 => ?_) (fun μ' hm q1 => ?_)
      · have := hY pt' a μ' hAu q1 q2
        exact ⟨1, rfl, fun _ => this, fun z => absurd z (by decide)⟩
      · have := hN μ' hm q1
        exact ⟨0, rfl, fun z => absurd rfl z, fun _ => this⟩
end KP4
