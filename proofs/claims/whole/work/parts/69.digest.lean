/-! LAYER B: digest; one call of both, where scratch is left open -/
def StG (F : ZFt) (D kx km : Nat) (as : List Value) (μ ν : ZM) : Prop := ∃ (r : Value) (A B : ZM → Prop), (∀ P : Option Value → ZM → Prop, (∀ μ', A μ' → P (some r) μ') → KK Zx F D kx (.ref 0 :: as) μ P) ∧ (∀ P : Option Value → ZM → Prop, (∀ ν', B ν' → P (some r) ν') → KK Zm F D km (.ref 0 :: as) ν P) ∧ ∀ μ' ν', A μ' → B ν' → Rel μ' ν'
theorem St.g {F : ZFt} {D kx km : Nat} {as : List Value} {μ ν : ZM} (h : St F D kx km as μ ν) : StG F D kx km as μ ν := by
  obtain ⟨r, μ', ν', h1, h2, h3⟩ := h
  exact ⟨r, (· = μ'), (· = ν'), fun P hP => h1 P (hP _ rfl), fun P hP => h2 P (hP _ rfl), fun _ _ e1 e2 => by rw [e1, e2]; exact h3⟩
theorem sq_decL {Z : List ZD} {K : ZKt} {F : ZFt} {ci k i : Nat} {as : PE (List Value)} {r : ZSt} {σ : ZS} {N : ZS → Prop} {P : Option Value → ZM → Prop} {B : Nat → ZS → Prop} (v : Int64) (a : List Value) (ha : (as σ).2 = a) (h1 : (as σ).1) (hz : zob Z ci a) (hf : F k a σ.2 = .long v) (hk : ∀ Q : Option Value → ZM → Prop, Q (some (.long v)) σ.2 → K k a σ.2 Q) (h2 : σ.1.length = i) (h3 : r (σ.1 ++ [.long v, .null], σ.2) N P B) : sSeq (sDecL i (xP (eCV Value.long rdL Z ci K F k as))) r σ N P B := by
  subst ha
  refine ⟨⟨h1, hz, hk _ ⟨by rw [hf]; rfl, rfl⟩⟩, h2, ?_⟩
  show r (σ.1 ++ [.long (rdL (F k (as σ).2 σ.2)), .null], σ.2) N P B
  rw [hf]
  exact h3
theorem sq_setL {Z : List ZD} {K : ZKt} {F : ZFt} {ci k i : Nat} {as : PE (List Value)} {r : ZSt} {σ : ZS} {N : ZS → Prop} {P : Option Value → ZM → Prop} {B : Nat → ZS → Prop} (v : Int64) (a : List Value) (ha : (as σ).2 = a) (h1 : (as σ).1) (hz : zob Z ci a) (hf : F k a σ.2 = .long v) (hk : ∀ Q : Option Value → ZM → Prop, Q (some (.long v)) σ.2 → K k a σ.2 Q) (h2 : (zlj σ.1 i).isSome = true) (h3 : r (σ.1.set i (.long v), σ.2) N P B) : sSeq (sSetL i (xP (eCV Value.long rdL Z ci K F k as))) r σ N P B := by
  subst ha
  refine ⟨⟨h1, hz, hk _ ⟨by rw [hf]; rfl, rfl⟩⟩, h2, ?_⟩
  show r (σ.1.set i (.long (rdL (F k (as σ).2 σ.2))), σ.2) N P B
  rw [hf]
  exact h3
section KD3
variable {F : ZFt} {d : Nat} {μ ν : ZM} {P : Option Value → ZM → Prop} {n nt nc : Nat} {h0 : Int64}
theorem st_digest (hdi : Fdi F) (h : Rel μ ν) : StG F (d + 12) 128 215 [] μ ν := by
  obtain ⟨nt, nc, hR, hnt⟩ := rw_of h
  obtain ⟨⟨z1, z2, z3, z4, z5⟩, hw, hk, hc⟩ := id hR
  obtain ⟨g, gX, gM⟩ := gr_at h
  obtain ⟨no, hno, ox, om⟩ : RC 6 (μ.1 153 0) (ν.1 0 26) := by
    obtain ⟨r1, r2, r3, r4, r5, r6, r7, r8, r9, r10, r11, r12, r13, r14, r15, r16, r17, r18, r19, r20, r21, r22, r23, r24, r25, r26, r27, r28, r29, r30, r31⟩ := h
    exact r21
  obtain ⟨nl, hnl, lx, lm⟩ : RC 6 (μ.1 159 0) (ν.1 0 32) := by
    obtain ⟨r1, r2, r3, r4, r5, r6, r7, r8, r9, r10, r11, r12, r13, r14, r15, r16, r17, r18, r19, r20, r21, r22, r23, r24, r25, r26, r27, r28, r29, r30, r31⟩ := h
    exact r26
  obtain ⟨nr, hnr, rx, rm⟩ : RC 12 (μ.1 169 0) (ν.1 0 36) := by
    obtain ⟨r1, r2, r3, r4, r5, r6, r7, r8, r9, r10, r11, r12, r13, r14, r15, r16, r17, r18, r19, r20, r21, r22, r23, r24, r25, r26, r27, r28, r29, r30, r31⟩ := h
    exact r30
  obtain ⟨np, hnp, px, pm⟩ : RC 40 (μ.1 16 1) (ν.1 0 6) := by
    obtain ⟨r1, r2, r3, r4, r5, r6, r7, r8, r9, r10, r11, r12, r13, r14, r15, r16, r17, r18, r19, r20, r21, r22, r23, r24, r25, r26, r27, r28, r29, r30, r31⟩ := h
    exact r7
  have hla : ∀ s, s < 4 → ∃ m, m ≤ 16 ∧ μ.1 147 s = nI m ∧ ν.1 25 s = nI m := by
    obtain ⟨r1, r2, r3, r4, r5, r6, r7, r8, r9, r10, r11, r12, r13, r14, r15, r16, r17, r18, r19, r20, r21, r22, r23, r24, r25, r26, r27, r28, r29, r30, r31⟩ := h
    intro s hs
    obtain ⟨e1, e2, e3⟩ := r19 s hs
    obtain ⟨n, _, hn, en⟩ := zrt (n := 16) (Int.le_refl 0) (by decide) ⟨e2, e3⟩
    exact ⟨n, hn, e1.trans en, en⟩
  have hcX : ∀ c, c < nc → ∃ m q, CX1 μ c m q := fun c hc' => by
    obtain ⟨m, q, hX, _⟩ := hc c hc'
    exact ⟨m, q, hX⟩
  have e20 : ∀ h, itF (s20 μ) 8 h = itF (m20 ν) 8 h := fun h1 => itF_c fun i hi h2 => by
    obtain ⟨r1, r2, r3, r4, r5, r6, r7, r8, r9, r10, r11, r12, r13, r14, r15, r16, r17, r18, r19, r20, r21, r22, r23, r24, r25, r26, r27, r28, r29, r30, r31⟩ := h
    unfold s20 m20
    rw [(r1 i hi).1, (r2 i hi).1, (r3 i hi).1]
    exact rwF_c fun k hk => by rw [← ro_at (a := 6) hi]; exact (r6 i hi k hk).1
  have e20b : ∀ h, itF (s20b μ) 4 h = itF (m20b ν) 4 h := fun h1 => itF_c fun i hi h2 => by
    obtain ⟨r1, r2, r3, r4, r5, r6, r7, r8, r9, r10, r11, r12, r13, r14, r15, r16, r17, r18, r19, r20, r21, r22, r23, r24, r25, r26, r27, r28, r29, r30, r31⟩ := h
    unfold s20b m20b
    rw [(r4 i hi).1, (r5 i hi).1]
  have e10 : ∀ h, itF (s10 μ) nc h = itF (m10 ν) nc h := fun h1 => itF_c fun c hc' h2 => by
    unfold s10 m10
    exact itF_c fun w hw h3 => by rw [abo_tol h z5 z2 hc']
  have e88 : ∀ h, itF (s88 μ) nt h = itF (m88 ν) nt h := fun h1 => itF_c fun t ht h2 => by
    obtain ⟨p, l, m, _, _, _, a1, a2, b1, b2, _⟩ := th_at h hnt z1 ht
    obtain ⟨_, f2, f3⟩ := kb_kn hR ht
    unfold s88 m88
    rw [a1, a2, b1, b2, f2, f3]
  have e45 : ∀ h, itF (s45 μ) 6 h = itF (m45 ν) 6 h := fun h1 => itF_c fun m hm h2 => by
    unfold s45 m45
    rw [rwF_c (g := fun p => ν.1 18 (8 * m + p)) (fun p hp => (hw m hm p hp).1)]
    rcases told_at h hm with ⟨e1, e2⟩ | ⟨e1, e2⟩ | ⟨e1, e2⟩ <;> rw [e1, e2]
  have e78 : ∀ h, itF (s78 μ) 4 h = itF (m78 ν) 4 h := fun h1 => itF_c fun s hs h2 => by
    obtain ⟨m, hm, e1, e2⟩ := hla s hs
    obtain ⟨r1, r2, r3, r4, r5, r6, r7, r8, r9, r10, r11, r12, r13, r14, r15, r16, r17, r18, r19, r20, r21, r22, r23, r24, r25, r26, r27, r28, r29, r30, r31⟩ := h
    unfold s78 m78
    rw [(r16 s hs).1, itF_c (f := s78b μ s) (g := m78b ν s) (fun p hp h3 => by
      unfold s78b m78b
      rw [← ro_at (a := 138) hs, ← ro_at (a := 143) hs, (r17 s hs p hp).1, (r18 s hs p hp).1]), e1, e2, nI_clamp (by omega)]
    exact rwF_c fun k hk => by rw [← ro_at (a := 149) hs]; exact (r20 s hs k (by rw [e2, nI_clamp (by omega)]; exact hk)).1
  have e53 : ∀ h, itF (s53 μ) no h = itF (m53 ν) no h := fun h1 => itF_c fun o ho h2 => by
    obtain ⟨r1, r2, r3, r4, r5, r6, r7, r8, r9, r10, r11, r12, r13, r14, r15, r16, r17, r18, r19, r20, r21, r22, r23, r24, r25, r26, r27, r28, r29, r30, r31⟩ := h
    unfold s53 m53
    rw [(r22 o (by rw [om, nI_clamp (by omega)]; exact ho)).1, (r23 o (by rw [om, nI_clamp (by omega)]; exact ho)).1]
  have e32 : ∀ h, itF (s32 μ) nl h = itF (m32 ν) nl h := fun h1 => itF_c fun k hk h2 => by
    obtain ⟨r1, r2, r3, r4, r5, r6, r7, r8, r9, r10, r11, r12, r13, r14, r15, r16, r17, r18, r19, r20, r21, r22, r23, r24, r25, r26, r27, r28, r29, r30, r31⟩ := h
    unfold s32 m32
    rw [(r27 k (by rw [lm, nI_clamp (by omega)]; exact hk)).1]
    exact rwF_c fun f hf => by rw [← ro_at (a := 162) (show k < 6 by omega)]; exact (r28 k (by omega) f hf).1
  have eas : ∀ h, rwF (μ.1 168) 4 h = rwF (ν.1 29) 4 h := fun h1 => rwF_c fun f hf => by
    obtain ⟨r1, r2, r3, r4, r5, r6, r7, r8, r9, r10, r11, r12, r13, r14, r15, r16, r17, r18, r19, r20, r21, r22, r23, r24, r25, r26, r27, r28, r29, r30, r31⟩ := h
    exact (r29 f hf).1
  have e74 : ∀ h, rwF (μ.1 170) nr h = rwF (ν.1 30) nr h := fun h1 => rwF_c fun i hi => by
    obtain ⟨r1, r2, r3, r4, r5, r6, r7, r8, r9, r10, r11, r12, r13, r14, r15, r16, r17, r18, r19, r20, r21, r22, r23, r24, r25, r26, r27, r28, r29, r30, r31⟩ := h
    exact (r31 i (by rw [rm, nI_clamp (by omega)]; exact hi)).1
  have e61 : ∀ h, rwF (μ.1 17) np h = rwF (ν.1 7) np h := fun h1 => rwF_c fun i hi => by
    obtain ⟨r1, r2, r3, r4, r5, r6, r7, r8, r9, r10, r11, r12, r13, r14, r15, r16, r17, r18, r19, r20, r21, r22, r23, r24, r25, r26, r27, r28, r29, r30, r31⟩ := h
    exact (r8 i (by rw [pm, nI_clamp (by omega)]; exact hi)).1
  have eco : ∀ h, itF (fun w h => 31 * h + (couX μ (nI w)).toInt64) 10 h = itF (fun w h => 31 * h + (couM ν (nI w)).toInt64) 10 h := fun h1 => itF_c fun w hw h2 => by rw [cou_eq h]
  obtain ⟨D1, hD1⟩ : ∃ D, D = itF (m45 ν) 6 (itF (m88 ν) nt (itF (m10 ν) nc (itF (m20b ν) 4 (itF (m20 ν) 8 283)))) := ⟨_, rfl⟩
  obtain ⟨D2, hD2⟩ : ∃ D, D = rwF (ν.1 7) np (rwF (ν.1 30) nr (rwF (ν.1 29) 4 (itF (m32 ν) nl (itF (m53 ν) no (itF (m78 ν) 4 D1))))) := ⟨_, rfl⟩
  refine ⟨.long (itF (fun w h => 31 * h + (couM ν (nI w)).toInt64) 10 D2), (· = μ), (· = zsetL ν 0 54 (itF (fun w h => 31 * h + (couM ν (nI w)).toInt64) 10 D2)), fun P hP => ?_, fun P hP => ?_, fun μ' ν' e1 e2 => by rw [e1, e2]; exact h⟩
  · have hP := hP _ rfl
    refine KK_in bd_128 rfl (Nat.le_of_ble_eq_true rfl) ?_
    unfold bd_128
    obtain ⟨a1, ha1⟩ : ∃ a, a = itF (s20b μ) 4 (itF (s20 μ) 8 283) := ⟨_, rfl⟩
    obtain ⟨a2, ha2⟩ : ∃ a, a = itF (s10 μ) nc a1 := ⟨_, rfl⟩
    obtain ⟨a3, ha3⟩ : ∃ a, a = itF (s88 μ) nt a2 := ⟨_, rfl⟩
    obtain ⟨a4, ha4⟩ : ∃ a, a = itF (s45 μ) 6 a3 := ⟨_, rfl⟩
    obtain ⟨a5, ha5⟩ : ∃ a, a = itF (s78 μ) 4 a4 := ⟨_, rfl⟩
    obtain ⟨a6, ha6⟩ : ∃ a, a = itF (s53 μ) no a5 := ⟨_, rfl⟩
    obtain ⟨a7, ha7⟩ : ∃ a, a = rwF (μ.1 168) 4 (itF (s32 μ) nl a6) := ⟨_, rfl⟩
    obtain ⟨a8, ha8⟩ : ∃ a, a = rwF (μ.1 170) nr a7 := ⟨_, rfl⟩
    obtain ⟨a9, ha9⟩ : ∃ a, a = rwF (μ.1 17) np a8 := ⟨_, rfl⟩
    have hfin : a9 = D2 := by rw [ha9, ha8, ha7, ha6, ha5, ha4, ha3, ha2, ha1, e20, e20b, e10, e88, e45, e78, e53, e32, eas, e74, e61, ← hD1, ← hD2]
    refine sq_decL a1 [.ref 1, .long 283] rfl ⟨⟨rfl, rfl⟩, trivial, trivial⟩ rfl (by rw [hdi.f20, ha1]) (fun Q hQ => k20 (d := d + 8) hdi (by rw [← ha1]; exact hQ)) rfl ?_
    show sSeq _ _ ([.ref 0, .long a1, .null], μ) _ _ _
    refine sq_setL a2 [.ref 20, .long a1, .ref 1] rfl ⟨⟨rfl, rfl⟩, rfl, ⟨rfl, rfl⟩, trivial⟩ rfl (by rw [hdi.f10, z4, nI_clamp (by omega), ha2]) (fun Q hQ => k10 (d := d + 5) hdi z4 z2 gX hcX (by rw [← ha2]; exact hQ)) rfl ?_
    show sSeq _ _ ([.ref 0, .long a2, .null], μ) _ _ _
    refine sq_setL a3 [.ref 61, .long a2] rfl ⟨⟨rfl, rfl⟩, rfl, trivial⟩ rfl (by rw [hdi.f88, z3, nI_clamp (by omega), ha3]) (fun Q hQ => k88 (d := d + 9) hdi z3 z1 (by rw [← ha3]; exact hQ)) rfl ?_
    show sSeq _ _ ([.ref 0, .long a3, .null], μ) _ _ _
    refine sq_setL a4 [.ref 124, .long a3] rfl ⟨⟨rfl, rfl⟩, rfl, trivial⟩ rfl (by rw [hdi.f45, ha4]) (fun Q hQ => k45 (d := d + 8) hdi (by rw [← ha4]; exact hQ)) rfl ?_
    show sSeq _ _ ([.ref 0, .long a4, .null], μ) _ _ _
    refine sq_setL a5 [.ref 135, .long a4] rfl ⟨⟨rfl, rfl⟩, rfl, trivial⟩ rfl (by rw [hdi.f78, ha5]) (fun Q hQ => k78 (d := d + 8) hdi (fun s hs => by obtain ⟨m, a, b, _⟩ := hla s hs; exact ⟨m, a, b⟩) (by rw [← ha5]; exact hQ)) rfl ?_
    show sSeq _ _ ([.ref 0, .long a5, .null], μ) _ _ _
    refine sq_setL a6 [.ref 153, .long a5] rfl ⟨⟨rfl, rfl⟩, rfl, trivial⟩ rfl (by rw [hdi.f53, ox, nI_clamp (by omega), ha6]) (fun Q hQ => k53 (d := d + 9) hdi ox hno (by rw [← ha6]; exact hQ)) rfl ?_
    show sSeq _ _ ([.ref 0, .long a6, .null], μ) _ _ _
    refine sq_setL a7 [.ref 159, .long a6] rfl ⟨⟨rfl, rfl⟩, rfl, trivial⟩ rfl (by rw [hdi.f32, lx, nI_clamp (by omega), ha7]) (fun Q hQ => k32 (d := d + 8) hdi lx hnl (by rw [← ha7]; exact hQ)) rfl ?_
    show sSeq _ _ ([.ref 0, .long a7, .null], μ) _ _ _
    refine sq_setL a8 [.ref 169, .long a7] rfl ⟨⟨rfl, rfl⟩, rfl, trivial⟩ rfl (by rw [hdi.f74, rx, nI_clamp (by omega), ha8]) (fun Q hQ => k74 (d := d + 8) hdi rx hnr (by rw [← ha8]; exact hQ)) rfl ?_
    show sSeq _ _ ([.ref 0, .long a8, .null], μ) _ _ _
    refine sq_setL a9 [.ref 16, .long a8] rfl ⟨⟨rfl, rfl⟩, rfl, trivial⟩ rfl (by rw [hdi.f61, px, nI_clamp (by omega), ha9]) (fun Q hQ => k61 (d := d + 8) hdi px hnp (by rw [← ha9]; exact hQ)) rfl ?_
    show sSeq _ _ ([.ref 0, .long a9, .null], μ) _ _ _
    rw [hfin]
    rw [← eco] at hP
    clear hD2 hfin
    clear ha1 ha2 ha3 ha4 ha5 ha6 ha7 ha8 ha9 e20 e20b e10 e88 e45 e78 e53 e32 eas e74 e61 eco
    simp (disch := first | omega | (simp (disch := omega) only [forall_eq', Value.category, or_true, true_or, Option.isSome_some, Option.getD_some, true_and, and_true, and_self, forall_const, reduceCtorEq, Bool.false_eq_true, ite_true, ite_false, reduceIte, Nat.reduceLT, Nat.reduceLeDiff, Nat.reduceEqDiff, Nat.reduceAdd, Nat.reduceMul, decide_true, decide_false, Bool.true_and, Bool.and_true, Bool.false_and, Bool.and_false, Bool.or_false, Bool.false_or, not_true_eq_false, not_false_eq_true, Classical.not_not, false_implies, implies_true, decide_eq_true_eq, decide_eq_false_iff_not, Bool.not_eq_true, Bool.not_eq_false, Bool.not_eq_eq_eq_not, Bool.and_eq_true, Bool.or_eq_true, Bool.not_true, Bool.not_false, exists_eq_left, Option.some.injEq, Value.int.injEq, Value.long.injEq, Value.ref.injEq, zofN, znr0, zvpN, nI_clamp, nI_ltI, nI_leI, nI_eq, nI_a1, zN_lt, zN_le, zN_gt, zN_ge, zN_eq, zN_m1, Nat.zero_le, zLE, zi_eq0, zi01b, zi01c, zlast])) only [sSeq, sIf, sSkip, sDecI, sDecL, sDecR, sSetI, sSetL, sInc, sRetI, sRetZ, sRetL, sRetR, sRetV, sScope, sPut, sPutL, sUpd, sSt, sStL, sStU, sStUL, sCpy, sCpyL, sCS, sCV, sSw, zsw, sBrk, xP, xCS, xCV, xNz, xI, xAnd, xOr, xNot, xT, xB, xInc, xPre, xIncL, xEq, eK, eV, eW, eR, eB, eU, eD, eT, eI, eAnd, eOr, eNot, eF, eFL, eFR, eA, eAL, eAR, eN, eCS, eCV, aN, aI, aL, aR, zen, zli, zlj, zlr, zob, rdI, rdL, rdR, zfk, List.cons_append, List.nil_append, List.set_cons_zero, List.set_cons_succ, List.take_succ_cons, List.take_zero, List.length_cons, List.length_nil, List.getElem?_cons_zero, List.getElem?_cons_succ, forall_eq', Value.category, or_true, true_or, Option.isSome_some, Option.getD_some, true_and, and_true, and_self, forall_const, reduceCtorEq, Bool.false_eq_true, ite_true, ite_false, reduceIte, Nat.reduceLT, Nat.reduceLeDiff, Nat.reduceEqDiff, Nat.reduceAdd, Nat.reduceMul, decide_true, decide_false, Bool.true_and, Bool.and_true, Bool.false_and, Bool.and_false, Bool.or_false, Bool.false_or, not_true_eq_false, not_false_eq_true, Classical.not_not, false_implies, implies_true, decide_eq_true_eq, decide_eq_false_iff_not, Bool.not_eq_true, Bool.not_eq_false, Bool.not_eq_eq_eq_not, Bool.and_eq_true, Bool.or_eq_true, Bool.not_true, Bool.not_false, exists_eq_left, Option.some.injEq, Value.int.injEq, Value.long.injEq, Value.ref.injEq, zFx0, zFx1, zFx2, zFx3, zFx4, zFx5, zFx6, zFx7, zFx8, zFx9, zFx10, zFx11, zFx12, zFx13, zFx14, zFm0, zFm1, zFm2, zFm3, zFm4, zofN, znr0, zvpN, nI_clamp, nI_ltI, nI_leI, nI_eq, nI_a1, zN_lt, zN_le, zN_gt, zN_ge, zN_eq, zN_m1, Nat.zero_le, zLE, zi_eq0, zi01b, zi01c, zlast, hdi.f133, hdi.f20, hdi.f10, hdi.f88, hdi.f45, hdi.f78, hdi.f53, hdi.f32, hdi.f74, hdi.f61, hdi.f34, hdi.f127, hdi.f211, hdi.f73, hdi.f72, hdi.f209, hdi.f216, hdi.f29, hdi.f31, hdi.f30, hdi.f28, hdi.f27, hdi.f204, hdi.f205, hdi.f76, hdi.f77, hdi.f217, hdi.f187, hdi.f43, hdi.f42, hdi.f44, hdi.f186, hdi.f188, hdi.f35, hdi.f36, hdi.f37, hdi.f178, hdi.f180, hdi.f1, hdi.f2, hdi.f3, hdi.f4, hdi.f5, hdi.f153, hdi.f154, hdi.f155, hdi.f156, hdi.f157, hdi.f164, hdi.f165, hdi.f166, hdi.f81, hdi.f84, hdi.f85, hdi.f86, hdi.f87, hdi.f137, hdi.f175, hdi.f174, hdi.f191, hdi.f11, hdi.f12, hdi.f13, hdi.f14, hdi.f15, hdi.f16, hdi.f17, hdi.f80, hdi.f138, hdi.f141, hdi.f143, hdi.f145, hdi.f129, hdi.f130, hdi.f132, hdi.f135, hdi.f136, k129, k130, k132, k135, k11, k12, zset_self, k136 hdi.a, k143 hdi.dr, k174 hdi.dr, k191 hdi.dr]
    refine whl_up 10 (fun i σ => σ = ([.ref 0, .long (itF (fun w h => 31 * h + (couX μ (nI w)).toInt64) i D2), .null, .int (nI i)], μ)) rfl ?_
    rintro i σ Nx hNx hi rfl
    by_cases hin : i < 10
    · have hN := hNx _ hin rfl
      rw [show itF (fun w h => 31 * h + (couX μ (nI w)).toInt64) (i + 1) D2 = 31 * itF (fun w h => 31 * h + (couX μ (nI w)).toInt64) i D2 + (couX μ (nI i)).toInt64 from rfl] at hN
      simp (disch := first | omega | (simp (disch := omega) only [forall_eq', Value.category, or_true, true_or, Option.isSome_some, Option.getD_some, true_and, and_true, and_self, forall_const, reduceCtorEq, Bool.false_eq_true, ite_true, ite_false, reduceIte, Nat.reduceLT, Nat.reduceLeDiff, Nat.reduceEqDiff, Nat.reduceAdd, Nat.reduceMul, decide_true, decide_false, Bool.true_and, Bool.and_true, Bool.false_and, Bool.and_false, Bool.or_false, Bool.false_or, not_true_eq_false, not_false_eq_true, Classical.not_not, false_implies, implies_true, decide_eq_true_eq, decide_eq_false_iff_not, Bool.not_eq_true, Bool.not_eq_false, Bool.not_eq_eq_eq_not, Bool.and_eq_true, Bool.or_eq_true, Bool.not_true, Bool.not_false, exists_eq_left, Option.some.injEq, Value.int.injEq, Value.long.injEq, Value.ref.injEq, zofN, znr0, zvpN, nI_clamp, nI_ltI, nI_leI, nI_eq, nI_a1, zN_lt, zN_le, zN_gt, zN_ge, zN_eq, zN_m1, Nat.zero_le, zLE, zi_eq0, zi01b, zi01c, zlast, hin, k127 hdi.co z3 z1])) only [sSeq, sIf, sSkip, sDecI, sDecL, sDecR, sSetI, sSetL, sInc, sRetI, sRetZ, sRetL, sRetR, sRetV, sScope, sPut, sPutL, sUpd, sSt, sStL, sStU, sStUL, sCpy, sCpyL, sCS, sCV, sSw, zsw, sBrk, xP, xCS, xCV, xNz, xI, xAnd, xOr, xNot, xT, xB, xInc, xPre, xIncL, xEq, eK, eV, eW, eR, eB, eU, eD, eT, eI, eAnd, eOr, eNot, eF, eFL, eFR, eA, eAL, eAR, eN, eCS, eCV, aN, aI, aL, aR, zen, zli, zlj, zlr, zob, rdI, rdL, rdR, zfk, List.cons_append, List.nil_append, List.set_cons_zero, List.set_cons_succ, List.take_succ_cons, List.take_zero, List.length_cons, List.length_nil, List.getElem?_cons_zero, List.getElem?_cons_succ, forall_eq', Value.category, or_true, true_or, Option.isSome_some, Option.getD_some, true_and, and_true, and_self, forall_const, reduceCtorEq, Bool.false_eq_true, ite_true, ite_false, reduceIte, Nat.reduceLT, Nat.reduceLeDiff, Nat.reduceEqDiff, Nat.reduceAdd, Nat.reduceMul, decide_true, decide_false, Bool.true_and, Bool.and_true, Bool.false_and, Bool.and_false, Bool.or_false, Bool.false_or, not_true_eq_false, not_false_eq_true, Classical.not_not, false_implies, implies_true, decide_eq_true_eq, decide_eq_false_iff_not, Bool.not_eq_true, Bool.not_eq_false, Bool.not_eq_eq_eq_not, Bool.and_eq_true, Bool.or_eq_true, Bool.not_true, Bool.not_false, exists_eq_left, Option.some.injEq, Value.int.injEq, Value.long.injEq, Value.ref.injEq, zFx0, zFx1, zFx2, zFx3, zFx4, zFx5, zFx6, zFx7, zFx8, zFx9, zFx10, zFx11, zFx12, zFx13, zFx14, zFm0, zFm1, zFm2, zFm3, zFm4, zofN, znr0, zvpN, nI_clamp, nI_ltI, nI_leI, nI_eq, nI_a1, zN_lt, zN_le, zN_gt, zN_ge, zN_eq, zN_m1, Nat.zero_le, zLE, zi_eq0, zi01b, zi01c, zlast, hdi.f133, hdi.f20, hdi.f10, hdi.f88, hdi.f45, hdi.f78, hdi.f53, hdi.f32, hdi.f74, hdi.f61, hdi.f34, hdi.f127, hdi.f211, hdi.f73, hdi.f72, hdi.f209, hdi.f216, hdi.f29, hdi.f31, hdi.f30, hdi.f28, hdi.f27, hdi.f204, hdi.f205, hdi.f76, hdi.f77, hdi.f217, hdi.f187, hdi.f43, hdi.f42, hdi.f44, hdi.f186, hdi.f188, hdi.f35, hdi.f36, hdi.f37, hdi.f178, hdi.f180, hdi.f1, hdi.f2, hdi.f3, hdi.f4, hdi.f5, hdi.f153, hdi.f154, hdi.f155, hdi.f156, hdi.f157, hdi.f164, hdi.f165, hdi.f166, hdi.f81, hdi.f84, hdi.f85, hdi.f86, hdi.f87, hdi.f137, hdi.f175, hdi.f174, hdi.f191, hdi.f11, hdi.f12, hdi.f13, hdi.f14, hdi.f15, hdi.f16, hdi.f17, hdi.f80, hdi.f138, hdi.f141, hdi.f143, hdi.f145, hdi.f129, hdi.f130, hdi.f132, hdi.f135, hdi.f136, k129, k130, k132, k135, k11, k12, zset_self, k136 hdi.a, k143 hdi.dr, k174 hdi.dr, k191 hdi.dr, hin, k127 hdi.co z3 z1]
      exact ⟨fun _ => hN, fun z => absurd z (by omega)⟩
    · rw [show i = 10 by omega]
      simp (disch := first | omega | (simp (disch := omega) only [forall_eq', Value.category, or_true, true_or, Option.isSome_some, Option.getD_some, true_and, and_true, and_self, forall_const, reduceCtorEq, Bool.false_eq_true, ite_true, ite_false, reduceIte, Nat.reduceLT, Nat.reduceLeDiff, Nat.reduceEqDiff, Nat.reduceAdd, Nat.reduceMul, decide_true, decide_false, Bool.true_and, Bool.and_true, Bool.false_and, Bool.and_false, Bool.or_false, Bool.false_or, not_true_eq_false, not_false_eq_true, Classical.not_not, false_implies, implies_true, decide_eq_true_eq, decide_eq_false_iff_not, Bool.not_eq_true, Bool.not_eq_false, Bool.not_eq_eq_eq_not, Bool.and_eq_true, Bool.or_eq_true, Bool.not_true, Bool.not_false, exists_eq_left, Option.some.injEq, Value.int.injEq, Value.long.injEq, Value.ref.injEq, zofN, znr0, zvpN, nI_clamp, nI_ltI, nI_leI, nI_eq, nI_a1, zN_lt, zN_le, zN_gt, zN_ge, zN_eq, zN_m1, Nat.zero_le, zLE, zi_eq0, zi01b, zi01c, zlast])) only [sSeq, sIf, sSkip, sDecI, sDecL, sDecR, sSetI, sSetL, sInc, sRetI, sRetZ, sRetL, sRetR, sRetV, sScope, sPut, sPutL, sUpd, sSt, sStL, sStU, sStUL, sCpy, sCpyL, sCS, sCV, sSw, zsw, sBrk, xP, xCS, xCV, xNz, xI, xAnd, xOr, xNot, xT, xB, xInc, xPre, xIncL, xEq, eK, eV, eW, eR, eB, eU, eD, eT, eI, eAnd, eOr, eNot, eF, eFL, eFR, eA, eAL, eAR, eN, eCS, eCV, aN, aI, aL, aR, zen, zli, zlj, zlr, zob, rdI, rdL, rdR, zfk, List.cons_append, List.nil_append, List.set_cons_zero, List.set_cons_succ, List.take_succ_cons, List.take_zero, List.length_cons, List.length_nil, List.getElem?_cons_zero, List.getElem?_cons_succ, forall_eq', Value.category, or_true, true_or, Option.isSome_some, Option.getD_some, true_and, and_true, and_self, forall_const, reduceCtorEq, Bool.false_eq_true, ite_true, ite_false, reduceIte, Nat.reduceLT, Nat.reduceLeDiff, Nat.reduceEqDiff, Nat.reduceAdd, Nat.reduceMul, decide_true, decide_false, Bool.true_and, Bool.and_true, Bool.false_and, Bool.and_false, Bool.or_false, Bool.false_or, not_true_eq_false, not_false_eq_true, Classical.not_not, false_implies, implies_true, decide_eq_true_eq, decide_eq_false_iff_not, Bool.not_eq_true, Bool.not_eq_false, Bool.not_eq_eq_eq_not, Bool.and_eq_true, Bool.or_eq_true, Bool.not_true, Bool.not_false, exists_eq_left, Option.some.injEq, Value.int.injEq, Value.long.injEq, Value.ref.injEq, zFx0, zFx1, zFx2, zFx3, zFx4, zFx5, zFx6, zFx7, zFx8, zFx9, zFx10, zFx11, zFx12, zFx13, zFx14, zFm0, zFm1, zFm2, zFm3, zFm4, zofN, znr0, zvpN, nI_clamp, nI_ltI, nI_leI, nI_eq, nI_a1, zN_lt, zN_le, zN_gt, zN_ge, zN_eq, zN_m1, Nat.zero_le, zLE, zi_eq0, zi01b, zi01c, zlast, hdi.f133, hdi.f20, hdi.f10, hdi.f88, hdi.f45, hdi.f78, hdi.f53, hdi.f32, hdi.f74, hdi.f61, hdi.f34, hdi.f127, hdi.f211, hdi.f73, hdi.f72, hdi.f209, hdi.f216, hdi.f29, hdi.f31, hdi.f30, hdi.f28, hdi.f27, hdi.f204, hdi.f205, hdi.f76, hdi.f77, hdi.f217, hdi.f187, hdi.f43, hdi.f42, hdi.f44, hdi.f186, hdi.f188, hdi.f35, hdi.f36, hdi.f37, hdi.f178, hdi.f180, hdi.f1, hdi.f2, hdi.f3, hdi.f4, hdi.f5, hdi.f153, hdi.f154, hdi.f155, hdi.f156, hdi.f157, hdi.f164, hdi.f165, hdi.f166, hdi.f81, hdi.f84, hdi.f85, hdi.f86, hdi.f87, hdi.f137, hdi.f175, hdi.f174, hdi.f191, hdi.f11, hdi.f12, hdi.f13, hdi.f14, hdi.f15, hdi.f16, hdi.f17, hdi.f80, hdi.f138, hdi.f141, hdi.f143, hdi.f145, hdi.f129, hdi.f130, hdi.f132, hdi.f135, hdi.f136, k129, k130, k132, k135, k11, k12, zset_self, k136 hdi.a, k143 hdi.dr, k174 hdi.dr, k191 hdi.dr]
      exact hP
  · have hP := hP _ rfl
    refine KK_in bd_215 rfl (Nat.le_of_ble_eq_true rfl) ?_
    unfold bd_215
    refine sqI ⟨rfl, trivial, ⟨rfl, rfl⟩, ?_⟩
    refine sqI ⟨⟨rfl, trivial⟩, rfl, k214 (d := d + 3) (h0 := 283) hdi hR hnt gM ⟨rfl, ?_⟩⟩
    rw [← hD1]
    refine sqI (k215a (d := d + 4) hdi (fun s hs => by obtain ⟨m, a, _, b⟩ := hla s hs; exact ⟨m, a, b⟩) ?_)
    refine sqI (k215b (d := d + 4) hdi om hno ?_)
    refine sqI (k215c (d := d + 4) hdi lm hnl ?_)
    refine sqI (k215d (d := d + 4) hdi ?_)
    refine sqI (k215e (d := d + 4) hdi rm hnr ?_)
    refine sqI (k215f (d := d + 4) hdi pm hnp ?_)
    rw [← hD2]
    refine sqI (k215g (d := d + 4) hdi hnt z1 ?_)
    refine ⟨⟨rfl, rfl, rfl⟩, ?_⟩
    show P (some (.long ((zsetL ν 0 54 _).2 0 54))) _
    rw [zl_get]
    exact hP
end KD3
