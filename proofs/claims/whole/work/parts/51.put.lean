/-! LAYER B: put, measure: what they need -/
theorem zbelow {n : Nat} {a : Int32} (hn : n ≤ 100) : a ≤ nI n - 1 ↔ a < nI n := by
  rw [Int32.le_iff_toInt_le, Int32.lt_iff_toInt_lt, Int32.toInt_sub, nI_toInt (by omega)]
  have e1 : (1 : Int32).toInt = 1 := rfl
  rw [e1, Int.bmod_eq_of_le (by omega) (by omega)]
  omega
/-- where a thing is, in the model's row: the first place, or -1 -/
def whereS (n : Nat) (f : Nat → Int32) (t : Int32) : Int32 := match (List.range n).find? (fun q => decide (f q = t)) with
  | some q => nI q
  | none => -1
theorem whereS_n {n : Nat} {f : Nat → Int32} {t : Int32} (h : ∀ q, q < n → f q ≠ t) : whereS n f t = -1 := by
  unfold whereS
  rw [List.find?_eq_none.mpr (fun q hq => by simpa using h q (List.mem_range.mp hq))]
theorem whereS_f {n i : Nat} {f : Nat → Int32} {t : Int32} (hi : i < n) (h : ∀ q, q < i → f q ≠ t) (e : f i = t) : whereS n f t = nI i := by
  unfold whereS
  have h1 : (List.range n).find? (fun q => decide (f q = t)) = some i := by
    rw [List.find?_range_eq_some]
    exact ⟨by simpa using e, List.mem_range.mpr hi, fun j hj => by simpa using h j hj⟩
  rw [h1]
theorem nI_i {a b : Nat} (ha : a < 1000) (hb : b < 1000) (h : nI a = nI b) : a = b := by
  have := congrArg Int32.toInt h
  rw [nI_toInt (by omega), nI_toInt (by omega)] at this
  omega
theorem nI_nn {a : Nat} (ha : a < 1000) : nI a ≠ -1 := by
  intro h
  have := congrArg Int32.toInt h
  rw [nI_toInt (by omega)] at this
  have e1 : (-1 : Int32).toInt = -1 := by decide
  omega
theorem rma_at {n t p : Nat} {tp pl wi : Nat → Int32} {ho : Nat → Nat → Int32} (h : RMa (nI n) tp ho pl wi) (hn : n ≤ 24) (ht : t < n) (hp : p < 8) (htp : tp t = nI p) :
    (pl t = -1 ∧ whereS 48 wi (nI t) = -1) ∨ ∃ m, m < 6 ∧ pl t = nI m ∧ wi (8 * m + p) = nI t ∧ whereS 48 wi (nI t) = nI (8 * m + p) := by
  unfold RMa at h
  rw [nI_clamp (by omega)] at h
  obtain ⟨h1, h2⟩ := h
  have hat : ∀ q, q < 48 → wi q = nI t → q % 8 = p ∧ pl t = nI (q / 8) := by
    intro q hq e
    obtain ⟨_, h4⟩ := h1 (q / 8) (by omega) (q % 8) (by omega)
    rw [show 8 * (q / 8) + q % 8 = q by omega, e] at h4
    obtain ⟨t', ht', h5, h6, h7⟩ := h4.resolve_left (nI_nn (by omega))
    have e2 : t = t' := nI_i (by omega) (by omega) h5
    subst e2
    rw [htp] at h6
    exact ⟨(nI_i (by omega) (by omega) h6).symm, h7⟩
  rcases h2 t (by omega) with h3 | ⟨m, p', hm, hp', _, h5, h6, h7⟩
  · refine Or.inl ⟨h3, whereS_n fun q hq e => ?_⟩
    have := (hat q hq e).2
    rw [h3] at this
    exact nI_nn (by omega) this.symm
  · rw [htp] at h6
    have e2 := nI_i (by omega) (by omega) h6
    subst e2
    refine Or.inr ⟨m, hm, h5, h7, whereS_f (by omega) (fun q hq e => ?_) h7⟩
    obtain ⟨h8, h9⟩ := hat q (by omega) e
    rw [h5] at h9
    have := nI_i (by omega) (by omega) h9
    omega
theorem rma_put {n t p m : Nat} {tp pl wi pl' wi' : Nat → Int32} {ho ho' : Nat → Nat → Int32} (h : RMa (nI n) tp ho pl wi) (hn : n ≤ 24) (ht : t < n) (hp : p < 8) (hm : m < 6) (htp : tp t = nI p)
    (hw : ∀ q, q < 48 → wi' q = if q = 8 * m + p then nI t else if wi q = nI t then -1 else wi q)
    (hh : ∀ m', m' < 6 → ∀ p', p' < 8 → ho' m' p' = wi' (8 * m' + p'))
    (hpl : ∀ s, s < 24 → pl' s = if s = t then nI m else if wi (8 * m + p) = nI s then -1 else pl s) : RMa (nI n) tp ho' pl' wi' := by
  unfold RMa at h ⊢
  rw [nI_clamp (by omega)] at h ⊢
  obtain ⟨h1, h2⟩ := h
  refine ⟨fun m' hm' p' hp' => ⟨hh m' hm' p' hp', ?_⟩, fun s hs => ?_⟩
  · rw [hw _ (by omega)]
    by_cases e : 8 * m' + p' = 8 * m + p
    · obtain ⟨rfl, rfl⟩ : m' = m ∧ p' = p := ⟨by omega, by omega⟩
      rw [if_pos rfl]
      exact Or.inr ⟨t, ht, rfl, htp, by rw [hpl t (by omega), if_pos rfl]⟩
    · rw [if_neg e]
      by_cases e2 : wi (8 * m' + p') = nI t
      · rw [if_pos e2]; exact Or.inl rfl
      · rw [if_neg e2]
        refine (h1 m' hm' p' hp').2.imp id ?_
        rintro ⟨s, hs, h5, h6, h7⟩
        refine ⟨s, hs, h5, h6, ?_⟩
        rw [hpl s (by omega), if_neg (fun z => e2 (by rw [h5, z])), if_neg ?_]
        · exact h7
        · intro z
          have h8 := (h1 m hm p hp).2
          rw [z] at h8
          obtain ⟨s', hs', h9, h10, h11⟩ := h8.resolve_left (nI_nn (by omega))
          have e3 : s = s' := nI_i (by omega) (by omega) h9
          subst e3
          rw [h6] at h10
          rw [h7] at h11
          have := nI_i (by omega) (by omega) h10
          have := nI_i (by omega) (by omega) h11
          omega
  · rw [hpl s hs]
    by_cases e : s = t
    · subst e
      rw [if_pos rfl]
      exact Or.inr ⟨m, p, hm, hp, ht, rfl, htp, by rw [hw _ (by omega), if_pos rfl]⟩
    · rw [if_neg e]
      by_cases e2 : wi (8 * m + p) = nI s
      · rw [if_pos e2]; exact Or.inl rfl
      · rw [if_neg e2]
        refine (h2 s hs).imp id ?_
        rintro ⟨m', p', hm', hp', hs', h5, h6, h7⟩
        refine ⟨m', p', hm', hp', hs', h5, h6, ?_⟩
        rw [hw _ (by omega), if_neg (fun z => e2 (by rw [← z]; exact h7)), h7, if_neg (fun z => e (nI_i (by omega) (by omega) z))]
section KM
variable {F : ZFt} {d : Nat} {μ ν : ZM} {P : Option Value → ZM → Prop}
theorem k137 {n : Nat} {a : Int32} (hF : Fdr F) (hn : n ≤ 24) (hm : ν.1 0 15 = nI n) (h : P (some (.int (zi (decide (0 ≤ a) && decide (a < nI n))))) ν) : KK Zm F (d + 2) 137 [.ref 0, .int a] ν P := by
  refine KK_in bd_137 rfl (Nat.le_of_ble_eq_true rfl) ?_; simp (disch := first | omega | (simp (disch := omega) only [forall_eq', Value.category, or_true, true_or, Option.isSome_some, Option.getD_some, true_and, and_true, and_self, forall_const, reduceCtorEq, Bool.false_eq_true, ite_true, ite_false, reduceIte, Nat.reduceLT, Nat.reduceLeDiff, Nat.reduceEqDiff, Nat.reduceAdd, Nat.reduceMul, decide_true, decide_false, Bool.true_and, Bool.and_true, Bool.false_and, Bool.and_false, Bool.or_false, Bool.false_or, not_true_eq_false, not_false_eq_true, Classical.not_not, false_implies, implies_true, decide_eq_true_eq, decide_eq_false_iff_not, Bool.not_eq_true, Bool.not_eq_false, Bool.not_eq_eq_eq_not, Bool.and_eq_true, Bool.or_eq_true, Bool.not_true, Bool.not_false, exists_eq_left, Option.some.injEq, Value.int.injEq, Value.long.injEq, Value.ref.injEq, zofN, znr0, zvpN, nI_clamp, nI_ltI, nI_leI, nI_eq, nI_a1, zN_lt, zN_le, zN_gt, zN_ge, zN_eq, zN_m1, Nat.zero_le, zLE, zi_eq0, zi01b, zi01c, zlast])) only [bd_137, sSeq, sIf, sSkip, sDecI, sDecL, sDecR, sSetI, sSetL, sInc, sRetI, sRetZ, sRetL, sRetR, sRetV, sScope, sPut, sPutL, sUpd, sSt, sStL, sStU, sStUL, sCpy, sCpyL, sCS, sCV, sSw, zsw, sBrk, xP, xCS, xCV, xNz, xI, xAnd, xOr, xNot, xT, xB, xInc, xPre, xIncL, xEq, eK, eV, eW, eR, eB, eU, eD, eT, eI, eAnd, eOr, eNot, eF, eFL, eFR, eA, eAL, eAR, eN, eCS, eCV, aN, aI, aL, aR, zen, zli, zlj, zlr, zob, rdI, rdL, rdR, zfk, List.cons_append, List.nil_append, List.set_cons_zero, List.set_cons_succ, List.take_succ_cons, List.take_zero, List.length_cons, List.length_nil, List.getElem?_cons_zero, List.getElem?_cons_succ, forall_eq', Value.category, or_true, true_or, Option.isSome_some, Option.getD_some, true_and, and_true, and_self, forall_const, reduceCtorEq, Bool.false_eq_true, ite_true, ite_false, reduceIte, Nat.reduceLT, Nat.reduceLeDiff, Nat.reduceEqDiff, Nat.reduceAdd, Nat.reduceMul, decide_true, decide_false, Bool.true_and, Bool.and_true, Bool.false_and, Bool.and_false, Bool.or_false, Bool.false_or, not_true_eq_false, not_false_eq_true, Classical.not_not, false_implies, implies_true, decide_eq_true_eq, decide_eq_false_iff_not, Bool.not_eq_true, Bool.not_eq_false, Bool.not_eq_eq_eq_not, Bool.and_eq_true, Bool.or_eq_true, Bool.not_true, Bool.not_false, exists_eq_left, Option.some.injEq, Value.int.injEq, Value.long.injEq, Value.ref.injEq, zFx0, zFx1, zFx2, zFx3, zFx4, zFx5, zFx6, zFx7, zFx8, zFx9, zFx10, zFx11, zFx12, zFx13, zFx14, zFm0, zFm1, zFm2, zFm3, zFm4, zofN, znr0, zvpN, nI_clamp, nI_ltI, nI_leI, nI_eq, nI_a1, zN_lt, zN_le, zN_gt, zN_ge, zN_eq, zN_m1, Nat.zero_le, zLE, zi_eq0, zi01b, zi01c, zlast, hF.a.f129, hF.a.f130, hF.a.f132, hF.a.f135, hF.a.f136, k129, k130, k132, k135, k136 hF.a, hF.f11, hF.f12, hF.f13, hF.f14, hF.f15, hF.f16, hF.f17, hF.f80, hF.f138, hF.f141, hF.f143, hF.f145, k11, k12, k143 hF, zset_self, hm, zbelow (show n ≤ 100 by omega)]
  exact h
theorem k175 {t : Int32} (h : P (some (.int (whereS 48 (ν.1 18) t))) ν) : KK Zm F (d + 1) 175 [.ref 0, .int t] ν P := by
  refine KK_in bd_175 rfl (Nat.le_of_ble_eq_true rfl) ?_
  simp only [bd_175, sSeq, sScope, sDecI, xP, eK, zen, List.cons_append, List.nil_append, List.set_cons_zero, List.set_cons_succ, List.take_succ_cons, List.take_zero, List.length_cons, List.length_nil, List.getElem?_cons_zero, List.getElem?_cons_succ, true_and]
  refine whl_up 48 (fun i σ => σ = ([.ref 0, .int t, .int (nI i)], ν) ∧ ∀ q, q < i → ν.1 18 q ≠ t) ⟨rfl, fun t h => absurd h (Nat.not_lt_zero t)⟩ ?_
  rintro i σ Nx hNx hi ⟨rfl, hno⟩
  simp (disch := omega) only [sSeq, sIf, sSkip, sDecI, sDecL, sDecR, sSetI, sSetL, sInc, sRetI, sRetZ, sRetL, sRetR, sRetV, sScope, sPut, sPutL, sUpd, sSt, sStL, sStU, sStUL, sCpy, sCpyL, sCS, sCV, sSw, zsw, sBrk, xP, xCS, xCV, xNz, xI, xAnd, xOr, xNot, xT, xB, xInc, xPre, xIncL, xEq, eK, eV, eW, eR, eB, eU, eD, eT, eI, eAnd, eOr, eNot, eF, eFL, eFR, eA, eAL, eAR, eN, eCS, eCV, aN, aI, aL, aR, zen, zli, zlj, zlr, zob, rdI, rdL, rdR, zfk, List.cons_append, List.nil_append, List.set_cons_zero, List.set_cons_succ, List.take_succ_cons, List.take_zero, List.length_cons, List.length_nil, List.getElem?_cons_zero, List.getElem?_cons_succ, forall_eq', Value.category, or_true, true_or, Option.isSome_some, Option.getD_some, true_and, and_true, and_self, forall_const, reduceCtorEq, Bool.false_eq_true, ite_true, ite_false, reduceIte, Nat.reduceLT, Nat.reduceLeDiff, Nat.reduceEqDiff, Nat.reduceAdd, Nat.reduceMul, decide_true, decide_false, Bool.true_and, Bool.and_true, Bool.false_and, Bool.and_false, Bool.or_false, Bool.false_or, not_true_eq_false, not_false_eq_true, Classical.not_not, false_implies, implies_true, decide_eq_true_eq, decide_eq_false_iff_not, Bool.not_eq_true, Bool.not_eq_false, Bool.not_eq_eq_eq_not, Bool.and_eq_true, Bool.or_eq_true, Bool.not_true, Bool.not_false, exists_eq_left, Option.some.injEq, Value.int.injEq, Value.long.injEq, Value.ref.injEq, zFx0, zFx1, zFx2, zFx3, zFx4, zFx5, zFx6, zFx7, zFx8, zFx9, zFx10, zFx11, zFx12, zFx13, zFx14, zFm0, zFm1, zFm2, zFm3, zFm4, zofN, znr0, zvpN, nI_clamp, nI_ltI, nI_leI, nI_eq, nI_a1, zN_lt, zN_le, zN_gt, zN_ge, zN_eq, zN_m1, Nat.zero_le, zLE, zi_eq0, zi01b, zi01c, zlast]
  refine ⟨fun h1 => ⟨by omega, fun h2 => ?_, fun h2 => hNx _ h1 ⟨rfl, lt_s hno h2⟩⟩, fun h1 => ?_⟩
  · rw [whereS_f h1 hno h2] at h
    exact h
  · rw [whereS_n (fun t ht => hno t (by omega))] at h
    exact h
end KM
