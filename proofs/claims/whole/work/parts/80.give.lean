/-! LAYER B: giveOut, the class's search -/
theorem nS_bd {f : Nat → Nat} {B : Nat} : ∀ {n : Nat}, (∀ i, i < n → f i ≤ B) → nS n f ≤ n * B
  | 0, _ => Nat.zero_le _
  | n + 1, h => by
    have := nS_bd (n := n) fun i hi => h i (by omega)
    have := h n (by omega)
    rw [nS, Nat.succ_mul]
    omega
section KG2
variable {F : ZFt} {n nc : Nat} {room : Nat → Int} {base : Nat → Nat} {oft : Nat → Nat → Nat} {spn : Nat → Nat} {pr : Nat → Nat → Nat} {Z : List ZD}
theorem gp_bd {μ : ZM} {k a : Nat} (hf : GFx μ n nc room oft spn pr) (hk : k ≤ n) : gpS pr k k a ≤ 17982 := by
  obtain ⟨a1, a2, a3, a4, a5, a6, a7, a8, a9⟩ := hf
  have := nS_bd (f := fun p => pr p (dg k a p)) (B := 2997) (n := k) fun p hp => (a9 p _ (by omega) (dg_lt k a p)).2
  unfold gpS
  omega
theorem us_bd {μ : ZM} {k a c : Nat} (hf : GFx μ n nc room oft spn pr) (hk : k ≤ n) (hc : c < nc) (hb : ∀ c, base c ≤ 4752) : usd base oft spn k a c ≤ 8316 := by
  obtain ⟨a1, a2, a3, a4, a5, a6, a7, a8, a9⟩ := hf
  have := nS_bd (f := fun p => oft p c * spn (dg k a p)) (B := 594) (n := k) fun p hp => Nat.mul_le_mul (a7 p c (by omega) hc).2 (a8 _ (dg_lt k a p)).2
  have := hb c
  show base c + nS k (fun p => oft p c * spn (dg k a p)) ≤ 8316
  omega
theorem GSt_c {μ μ' : ZM} {pc : Nat → Nat} {s : Option Nat} (h1 : μ'.1 40 = μ.1 40) (h2 : μ'.1 41 = μ.1 41) (h : GSt μ n pc s) : GSt μ' n pc s := by
  cases s with
  | none => exact (congrFun h1 1).trans h
  | some y => exact ⟨(congrFun h1 1).trans h.1, fun p hp => (congrFun h2 p).trans (h.2 p hp)⟩
theorem k23 (hgi : Fgi F) (hb : ∀ c, base c ≤ 4752) : ∀ (m : Nat) {d k a : Nat} {μ : ZM} {s : Option Nat} {P : Option Value → ZM → Prop}, k + m = n → GFx μ n nc room oft spn pr → a < 4 ^ k → (∀ p, p < k → μ.1 42 p = nI (dg k a p)) → (∀ c, c < nc → μ.1 (54 + k) c = nI (usd base oft spn k a c)) → GSt μ n (gpS pr n n) s →
    (∀ μ', GKeep k μ μ' → GSt μ' n (gpS pr n n) (rf (gpS pr n n) (okW nc room base oft spn n) s (a * 4 ^ m) (4 ^ m)) → P none μ') → KK Zx F (d + m + 3) 23 [.ref 40, .int (nI k), .int (nI (gpS pr k k a)), .ref 1] μ P := by
  intro m
  induction m with
  | zero =>
    intro d k a μ s P hk hf ha hch hu hs h
    obtain ⟨a1, a2, a3, a4, a5, a6, a7, a8, a9⟩ := id hf
    have hk7 : k < 7 := by omega
    have hkn : k = n := by omega
    subst hkn
    have e24 : allB nc (fun c => decide (μ.1 (54 + k) c ≤ μ.1 43 c)) = allB nc (fun c => decide ((usd base oft spn k a c : Int) ≤ room c)) := allB_c fun c hc => by
      have := us_bd (k := k) (a := a) hf (by omega) hc hb
      refine decide_eq_decide.mpr ?_
      rw [Int32.le_iff_toInt_le, hu c hc, nI_toInt (by omega), a6 c hc]
    have hg := gp_bd (a := a) hf (Nat.le_refl k)
    have ha1 : a * 4 ^ 0 = a := by simp
    have e1 : rf (gpS pr k k) (okW nc room base oft spn k) s (a * 4 ^ 0) (4 ^ 0) = up1 (gpS pr k k) (okW nc room base oft spn k) s a := by rw [ha1]; rfl
    rw [e1] at h
    have z2 : (zset μ 40 1 (nI (gpS pr k k a))).1 40 2 = nI k := by rw [zs_eq, zu_ne (by omega)]; exact a4
    refine KK_in bd_23 rfl (Nat.le_of_ble_eq_true rfl) ?_; simp (disch := first | omega | (simp (disch := omega) only [forall_eq', Value.category, or_true, true_or, Option.isSome_some, Option.getD_some, true_and, and_true, and_self, forall_const, reduceCtorEq, Bool.false_eq_true, ite_true, ite_false, reduceIte, Nat.reduceLT, Nat.reduceLeDiff, Nat.reduceEqDiff, Nat.reduceAdd, Nat.reduceMul, decide_true, decide_false, Bool.true_and, Bool.and_true, Bool.false_and, Bool.and_false, Bool.or_false, Bool.false_or, not_true_eq_false, not_false_eq_true, Classical.not_not, false_implies, implies_true, decide_eq_true_eq, decide_eq_false_iff_not, Bool.not_eq_true, Bool.not_eq_false, Bool.not_eq_eq_eq_not, Bool.and_eq_true, Bool.or_eq_true, Bool.not_true, Bool.not_false, exists_eq_left, Option.some.injEq, Value.int.injEq, Value.long.injEq, Value.ref.injEq, zofN, znr0, zvpN, nI_clamp, nI_ltI, nI_leI, nI_eq, nI_a1, zN_lt, zN_le, zN_gt, zN_ge, zN_eq, zN_m1, Nat.zero_le, zLE, zi_eq0, zi01b, zi01c, zlast, k24 hgi hk7 a5 a3, a4, a5, e24, z2, Nat.lt_irrefl])) only [bd_23, sSeq, sIf, sSkip, sDecI, sDecL, sDecR, sSetI, sSetL, sInc, sRetI, sRetZ, sRetL, sRetR, sRetV, sScope, sPut, sPutL, sUpd, sSt, sStL, sStU, sStUL, sCpy, sCpyL, sCS, sCV, sSw, zsw, sBrk, xP, xCS, xCV, xNz, xI, xAnd, xOr, xNot, xT, xB, xInc, xPre, xIncL, xEq, eK, eV, eW, eR, eB, eU, eD, eT, eI, eAnd, eOr, eNot, eF, eFL, eFR, eA, eAL, eAR, eN, eCS, eCV, aN, aI, aL, aR, zen, zli, zlj, zlr, zob, rdI, rdL, rdR, zfk, List.cons_append, List.nil_append, List.set_cons_zero, List.set_cons_succ, List.take_succ_cons, List.take_zero, List.length_cons, List.length_nil, List.getElem?_cons_zero, List.getElem?_cons_succ, forall_eq', Value.category, or_true, true_or, Option.isSome_some, Option.getD_some, true_and, and_true, and_self, forall_const, reduceCtorEq, Bool.false_eq_true, ite_true, ite_false, reduceIte, Nat.reduceLT, Nat.reduceLeDiff, Nat.reduceEqDiff, Nat.reduceAdd, Nat.reduceMul, decide_true, decide_false, Bool.true_and, Bool.and_true, Bool.false_and, Bool.and_false, Bool.or_false, Bool.false_or, not_true_eq_false, not_false_eq_true, Classical.not_not, false_implies, implies_true, decide_eq_true_eq, decide_eq_false_iff_not, Bool.not_eq_true, Bool.not_eq_false, Bool.not_eq_eq_eq_not, Bool.and_eq_true, Bool.or_eq_true, Bool.not_true, Bool.not_false, exists_eq_left, Option.some.injEq, Value.int.injEq, Value.long.injEq, Value.ref.injEq, zFx0, zFx1, zFx2, zFx3, zFx4, zFx5, zFx6, zFx7, zFx8, zFx9, zFx10, zFx11, zFx12, zFx13, zFx14, zFm0, zFm1, zFm2, zFm3, zFm4, zofN, znr0, zvpN, nI_clamp, nI_ltI, nI_leI, nI_eq, nI_a1, zN_lt, zN_le, zN_gt, zN_ge, zN_eq, zN_m1, Nat.zero_le, zLE, zi_eq0, zi01b, zi01c, zlast, hgi.f24, hgi.f25, hgi.f9, hgi.f18, hgi.f19, hgi.f56, hgi.f57, hgi.f134, hgi.f133, hgi.f20, hgi.f10, hgi.f88, hgi.f45, hgi.f78, hgi.f53, hgi.f32, hgi.f74, hgi.f61, hgi.f34, hgi.f127, hgi.f211, hgi.f73, hgi.f72, hgi.f209, hgi.f216, hgi.f29, hgi.f31, hgi.f30, hgi.f28, hgi.f27, hgi.f204, hgi.f205, hgi.f76, hgi.f77, hgi.f217, hgi.f187, hgi.f43, hgi.f42, hgi.f44, hgi.f186, hgi.f188, hgi.f35, hgi.f36, hgi.f37, hgi.f178, hgi.f180, hgi.f1, hgi.f2, hgi.f3, hgi.f4, hgi.f5, hgi.f153, hgi.f154, hgi.f155, hgi.f156, hgi.f157, hgi.f164, hgi.f165, hgi.f166, hgi.f81, hgi.f84, hgi.f85, hgi.f86, hgi.f87, hgi.f137, hgi.f175, hgi.f174, hgi.f191, hgi.f11, hgi.f12, hgi.f13, hgi.f14, hgi.f15, hgi.f16, hgi.f17, hgi.f80, hgi.f138, hgi.f141, hgi.f143, hgi.f145, hgi.f129, hgi.f130, hgi.f132, hgi.f135, hgi.f136, k129, k130, k132, k135, k11, k12, zset_self, k136 hgi.a, k143 hgi.dr, k174 hgi.dr, k191 hgi.dr, k24 hgi hk7 a5 a3, a4, a5, e24, z2, Nat.lt_irrefl]
    cases hB : allB nc (fun c => decide ((usd base oft spn k a c : Int) ≤ room c)) with
    | false =>
      have hr : up1 (gpS pr k k) (okW nc room base oft spn k) s a = s := if_neg fun z => by
        have := z.1
        unfold okW at this
        rw [hB] at this
        cases this
      rw [hr] at h
      exact ⟨fun _ => h μ (GKeep.refl _ _) hs, fun z => absurd z (by simp)⟩
    | true =>
      by_cases hs2 : ∀ y, s = some y → gpS pr k k a < gpS pr k k y
      · have hr : up1 (gpS pr k k) (okW nc room base oft spn k) s a = some a := if_pos ⟨hB, hs2⟩
        rw [hr] at h
        refine ⟨fun z => by (cases z), fun _ => ⟨fun z => ?_, fun _ => ⟨⟨by omega, by omega⟩, ⟨by omega, by omega⟩, h _ ⟨fun x hx => ?_, fun j hj => ?_, fun j hj => ?_⟩ ⟨?_, fun p hp => ?_⟩⟩⟩⟩
        · cases s with
          | none => exact absurd hs z.1
          | some y =>
            have hy := gp_bd (a := y) hf (Nat.le_refl k)
            have h2 := z.2
            rw [hs.1, nI_leI (by omega) (by omega)] at h2
            have := hs2 y rfl
            omega
        · rw [zcp_ne (by omega), zs_ne (by omega)]
        · rw [zcp_ne (by omega), zs_eq, zu_ne hj]
        · rw [zcp_ne (by omega), zs_ne (by omega)]
        · rw [zcp_ne (by omega), zs_eq, zu_eq]
        · rw [zcp_eq, if_pos hp, zs_ne (by omega)]
          exact hch p hp
      · have hr : up1 (gpS pr k k) (okW nc room base oft spn k) s a = s := if_neg fun z => hs2 z.2
        rw [hr] at h
        refine ⟨fun z => by (cases z), fun _ => ⟨fun _ => h μ (GKeep.refl _ _) hs, fun z => absurd z ?_⟩⟩
        cases s with
        | none => exact absurd (fun y e => by (cases e)) hs2
        | some y =>
          have hy := gp_bd (a := y) hf (Nat.le_refl k)
          have h1 : ¬ (gpS pr k k a < gpS pr k k y) := fun q => hs2 fun y' e => by
            cases e
            exact q
          have h2 : nI (gpS pr k k y) ≤ nI (gpS pr k k a) := by
            rw [nI_leI (by omega) (by omega)]
            omega
          have h3 : ¬ nI (gpS pr k k y) = -1 := fun q => by
            have := congrArg Int32.toInt q
            rw [nI_toInt (by omega)] at this
            have e : (-1 : Int32).toInt = -1 := by decide
            omega
          rw [hs.1, decide_eq_true h2, decide_eq_true h3]
          simp
  | succ m ih =>
    intro d k a μ s P hk hf ha hch hu hs h
    obtain ⟨a1, a2, a3, a4, a5, a6, a7, a8, a9⟩ := id hf
    have hk7 : k < 7 := by omega
    have hkn : k < n := by omega
    have e24 : allB nc (fun c => decide (μ.1 (54 + k) c ≤ μ.1 43 c)) = allB nc (fun c => decide ((usd base oft spn k a c : Int) ≤ room c)) := allB_c fun c hc => by
      have := us_bd (k := k) (a := a) hf (by omega) hc hb
      refine decide_eq_decide.mpr ?_
      rw [Int32.le_iff_toInt_le, hu c hc, nI_toInt (by omega), a6 c hc]
    have hpre : ∀ x, a * 4 ^ (m + 1) ≤ x → x < a * 4 ^ (m + 1) + 4 ^ (m + 1) → x / 4 ^ (n - k) = a := fun x x1 x2 => by
      rw [show n - k = m + 1 by omega]
      exact rng x1 x2
    have hg := gp_bd (a := a) hf (Nat.le_of_lt hkn)
    refine KK_in bd_23 rfl (Nat.le_of_ble_eq_true rfl) ?_; simp (disch := first | omega | (simp (disch := omega) only [forall_eq', Value.category, or_true, true_or, Option.isSome_some, Option.getD_some, true_and, and_true, and_self, forall_const, reduceCtorEq, Bool.false_eq_true, ite_true, ite_false, reduceIte, Nat.reduceLT, Nat.reduceLeDiff, Nat.reduceEqDiff, Nat.reduceAdd, Nat.reduceMul, decide_true, decide_false, Bool.true_and, Bool.and_true, Bool.false_and, Bool.and_false, Bool.or_false, Bool.false_or, not_true_eq_false, not_false_eq_true, Classical.not_not, false_implies, implies_true, decide_eq_true_eq, decide_eq_false_iff_not, Bool.not_eq_true, Bool.not_eq_false, Bool.not_eq_eq_eq_not, Bool.and_eq_true, Bool.or_eq_true, Bool.not_true, Bool.not_false, exists_eq_left, Option.some.injEq, Value.int.injEq, Value.long.injEq, Value.ref.injEq, zofN, znr0, zvpN, nI_clamp, nI_ltI, nI_leI, nI_eq, nI_a1, zN_lt, zN_le, zN_gt, zN_ge, zN_eq, zN_m1, Nat.zero_le, zLE, zi_eq0, zi01b, zi01c, zlast, k24 hgi hk7 a5 a3, a4, a5, e24, hkn])) only [bd_23, sSeq, sIf, sSkip, sDecI, sDecL, sDecR, sSetI, sSetL, sInc, sRetI, sRetZ, sRetL, sRetR, sRetV, sScope, sPut, sPutL, sUpd, sSt, sStL, sStU, sStUL, sCpy, sCpyL, sCS, sCV, sSw, zsw, sBrk, xP, xCS, xCV, xNz, xI, xAnd, xOr, xNot, xT, xB, xInc, xPre, xIncL, xEq, eK, eV, eW, eR, eB, eU, eD, eT, eI, eAnd, eOr, eNot, eF, eFL, eFR, eA, eAL, eAR, eN, eCS, eCV, aN, aI, aL, aR, zen, zli, zlj, zlr, zob, rdI, rdL, rdR, zfk, List.cons_append, List.nil_append, List.set_cons_zero, List.set_cons_succ, List.take_succ_cons, List.take_zero, List.length_cons, List.length_nil, List.getElem?_cons_zero, List.getElem?_cons_succ, forall_eq', Value.category, or_true, true_or, Option.isSome_some, Option.getD_some, true_and, and_true, and_self, forall_const, reduceCtorEq, Bool.false_eq_true, ite_true, ite_false, reduceIte, Nat.reduceLT, Nat.reduceLeDiff, Nat.reduceEqDiff, Nat.reduceAdd, Nat.reduceMul, decide_true, decide_false, Bool.true_and, Bool.and_true, Bool.false_and, Bool.and_false, Bool.or_false, Bool.false_or, not_true_eq_false, not_false_eq_true, Classical.not_not, false_implies, implies_true, decide_eq_true_eq, decide_eq_false_iff_not, Bool.not_eq_true, Bool.not_eq_false, Bool.not_eq_eq_eq_not, Bool.and_eq_true, Bool.or_eq_true, Bool.not_true, Bool.not_false, exists_eq_left, Option.some.injEq, Value.int.injEq, Value.long.injEq, Value.ref.injEq, zFx0, zFx1, zFx2, zFx3, zFx4, zFx5, zFx6, zFx7, zFx8, zFx9, zFx10, zFx11, zFx12, zFx13, zFx14, zFm0, zFm1, zFm2, zFm3, zFm4, zofN, znr0, zvpN, nI_clamp, nI_ltI, nI_leI, nI_eq, nI_a1, zN_lt, zN_le, zN_gt, zN_ge, zN_eq, zN_m1, Nat.zero_le, zLE, zi_eq0, zi01b, zi01c, zlast, hgi.f24, hgi.f25, hgi.f9, hgi.f18, hgi.f19, hgi.f56, hgi.f57, hgi.f134, hgi.f133, hgi.f20, hgi.f10, hgi.f88, hgi.f45, hgi.f78, hgi.f53, hgi.f32, hgi.f74, hgi.f61, hgi.f34, hgi.f127, hgi.f211, hgi.f73, hgi.f72, hgi.f209, hgi.f216, hgi.f29, hgi.f31, hgi.f30, hgi.f28, hgi.f27, hgi.f204, hgi.f205, hgi.f76, hgi.f77, hgi.f217, hgi.f187, hgi.f43, hgi.f42, hgi.f44, hgi.f186, hgi.f188, hgi.f35, hgi.f36, hgi.f37, hgi.f178, hgi.f180, hgi.f1, hgi.f2, hgi.f3, hgi.f4, hgi.f5, hgi.f153, hgi.f154, hgi.f155, hgi.f156, hgi.f157, hgi.f164, hgi.f165, hgi.f166, hgi.f81, hgi.f84, hgi.f85, hgi.f86, hgi.f87, hgi.f137, hgi.f175, hgi.f174, hgi.f191, hgi.f11, hgi.f12, hgi.f13, hgi.f14, hgi.f15, hgi.f16, hgi.f17, hgi.f80, hgi.f138, hgi.f141, hgi.f143, hgi.f145, hgi.f129, hgi.f130, hgi.f132, hgi.f135, hgi.f136, k129, k130, k132, k135, k11, k12, zset_self, k136 hgi.a, k143 hgi.dr, k174 hgi.dr, k191 hgi.dr, k24 hgi hk7 a5 a3, a4, a5, e24, hkn]
    cases hB : allB nc (fun c => decide ((usd base oft spn k a c : Int) ≤ room c)) with
    | false =>
      have hr := rf_no (pc := gpS pr n n) (ok := okW nc room base oft spn n) (s := s) (lo := a * 4 ^ (m + 1)) (l := 4 ^ (m + 1)) fun x x1 x2 => Or.inl (ok_pre (Nat.le_of_lt hkn) (hpre x x1 x2) hB)
      exact ⟨fun _ => h μ (GKeep.refl _ _) (by rw [hr]; exact hs), fun z => absurd z (by simp)⟩
    | true =>
      refine ⟨fun z => ?_, fun _ => ⟨fun z => ?_, fun _ => ⟨fun e => absurd e (by omega), fun _ => ?_⟩⟩⟩
      · rcases z with z | z
        · omega
        · cases z
      · cases s with
        | none => exact absurd hs z.1
        | some y =>
          have hy := gp_bd (a := y) hf (Nat.le_refl n)
          have h2 := z.2
          rw [hs.1, nI_leI (by omega) (by omega)] at h2
          have hr := rf_no (pc := gpS pr n n) (ok := okW nc room base oft spn n) (s := some y) (lo := a * 4 ^ (m + 1)) (l := 4 ^ (m + 1)) fun x x1 x2 => Or.inr ⟨y, rfl, Nat.le_trans h2 (gp_le (Nat.le_of_lt hkn) (hpre x x1 x2))⟩
          exact h μ (GKeep.refl _ _) (by rw [hr]; exact hs)
      · refine whl_up 4 (fun g σ => ∃ μ2, σ = ([.ref 40, .int (nI k), .int (nI (gpS pr k k a)), .ref 1, .int (nI g)], μ2) ∧ GKeep k μ μ2 ∧ GSt μ2 n (gpS pr n n) (rf (gpS pr n n) (okW nc room base oft spn n) s (a * 4 ^ (m + 1)) (g * 4 ^ m))) ⟨μ, rfl, GKeep.refl _ _, by rw [Nat.zero_mul]; exact hs⟩ ?_
        rintro g σ Nx hNx hg4 ⟨μ2, rfl, w1, w2⟩
        have hf2 := hf.keep w1
        obtain ⟨b1, b2, b3, b4, b5, b6, b7, b8, b9⟩ := id hf2
        by_cases hin : g < 4
        · have hN := fun μ' v1 v2 => hNx ([.ref 40, .int (nI k), .int (nI (gpS pr k k a)), .ref 1, .int (nI (g + 1))], μ') hin ⟨μ', rfl, v1, v2⟩
          have k6 : k < 6 := by omega
          simp (disch := first | omega | (simp (disch := omega) only [forall_eq', Value.category, or_true, true_or, Option.isSome_some, Option.getD_some, true_and, and_true, and_self, forall_const, reduceCtorEq, Bool.false_eq_true, ite_true, ite_false, reduceIte, Nat.reduceLT, Nat.reduceLeDiff, Nat.reduceEqDiff, Nat.reduceAdd, Nat.reduceMul, decide_true, decide_false, Bool.true_and, Bool.and_true, Bool.false_and, Bool.and_false, Bool.or_false, Bool.false_or, not_true_eq_false, not_false_eq_true, Classical.not_not, false_implies, implies_true, decide_eq_true_eq, decide_eq_false_iff_not, Bool.not_eq_true, Bool.not_eq_false, Bool.not_eq_eq_eq_not, Bool.and_eq_true, Bool.or_eq_true, Bool.not_true, Bool.not_false, exists_eq_left, Option.some.injEq, Value.int.injEq, Value.long.injEq, Value.ref.injEq, zofN, znr0, zvpN, nI_clamp, nI_ltI, nI_leI, nI_eq, nI_a1, zN_lt, zN_le, zN_gt, zN_ge, zN_eq, zN_m1, Nat.zero_le, zLE, zi_eq0, zi01b, zi01c, zlast, hin, k6, b5])) only [sSeq, sIf, sSkip, sDecI, sDecL, sDecR, sSetI, sSetL, sInc, sRetI, sRetZ, sRetL, sRetR, sRetV, sScope, sPut, sPutL, sUpd, sSt, sStL, sStU, sStUL, sCpy, sCpyL, sCS, sCV, sSw, zsw, sBrk, xP, xCS, xCV, xNz, xI, xAnd, xOr, xNot, xT, xB, xInc, xPre, xIncL, xEq, eK, eV, eW, eR, eB, eU, eD, eT, eI, eAnd, eOr, eNot, eF, eFL, eFR, eA, eAL, eAR, eN, eCS, eCV, aN, aI, aL, aR, zen, zli, zlj, zlr, zob, rdI, rdL, rdR, zfk, List.cons_append, List.nil_append, List.set_cons_zero, List.set_cons_succ, List.take_succ_cons, List.take_zero, List.length_cons, List.length_nil, List.getElem?_cons_zero, List.getElem?_cons_succ, forall_eq', Value.category, or_true, true_or, Option.isSome_some, Option.getD_some, true_and, and_true, and_self, forall_const, reduceCtorEq, Bool.false_eq_true, ite_true, ite_false, reduceIte, Nat.reduceLT, Nat.reduceLeDiff, Nat.reduceEqDiff, Nat.reduceAdd, Nat.reduceMul, decide_true, decide_false, Bool.true_and, Bool.and_true, Bool.false_and, Bool.and_false, Bool.or_false, Bool.false_or, not_true_eq_false, not_false_eq_true, Classical.not_not, false_implies, implies_true, decide_eq_true_eq, decide_eq_false_iff_not, Bool.not_eq_true, Bool.not_eq_false, Bool.not_eq_eq_eq_not, Bool.and_eq_true, Bool.or_eq_true, Bool.not_true, Bool.not_false, exists_eq_left, Option.some.injEq, Value.int.injEq, Value.long.injEq, Value.ref.injEq, zFx0, zFx1, zFx2, zFx3, zFx4, zFx5, zFx6, zFx7, zFx8, zFx9, zFx10, zFx11, zFx12, zFx13, zFx14, zFm0, zFm1, zFm2, zFm3, zFm4, zofN, znr0, zvpN, nI_clamp, nI_ltI, nI_leI, nI_eq, nI_a1, zN_lt, zN_le, zN_gt, zN_ge, zN_eq, zN_m1, Nat.zero_le, zLE, zi_eq0, zi01b, zi01c, zlast, hgi.f24, hgi.f25, hgi.f9, hgi.f18, hgi.f19, hgi.f56, hgi.f57, hgi.f134, hgi.f133, hgi.f20, hgi.f10, hgi.f88, hgi.f45, hgi.f78, hgi.f53, hgi.f32, hgi.f74, hgi.f61, hgi.f34, hgi.f127, hgi.f211, hgi.f73, hgi.f72, hgi.f209, hgi.f216, hgi.f29, hgi.f31, hgi.f30, hgi.f28, hgi.f27, hgi.f204, hgi.f205, hgi.f76, hgi.f77, hgi.f217, hgi.f187, hgi.f43, hgi.f42, hgi.f44, hgi.f186, hgi.f188, hgi.f35, hgi.f36, hgi.f37, hgi.f178, hgi.f180, hgi.f1, hgi.f2, hgi.f3, hgi.f4, hgi.f5, hgi.f153, hgi.f154, hgi.f155, hgi.f156, hgi.f157, hgi.f164, hgi.f165, hgi.f166, hgi.f81, hgi.f84, hgi.f85, hgi.f86, hgi.f87, hgi.f137, hgi.f175, hgi.f174, hgi.f191, hgi.f11, hgi.f12, hgi.f13, hgi.f14, hgi.f15, hgi.f16, hgi.f17, hgi.f80, hgi.f138, hgi.f141, hgi.f143, hgi.f145, hgi.f129, hgi.f130, hgi.f132, hgi.f135, hgi.f136, k129, k130, k132, k135, k11, k12, zset_self, k136 hgi.a, k143 hgi.dr, k174 hgi.dr, k191 hgi.dr, hin, k6, b5]
          refine whl_up nc (fun c σ => ∃ μ3, σ = ([.ref 40, .int (nI k), .int (nI (gpS pr k k a)), .ref 1, .int (nI g), .int (nI c)], μ3) ∧ GKeep k μ2 μ3 ∧ μ3.1 40 = μ2.1 40 ∧ μ3.1 41 = μ2.1 41 ∧ μ3.1 42 k = nI g ∧ ∀ j, j < c → μ3.1 (54 + (k + 1)) j = nI (usd base oft spn (k + 1) (4 * a + g) j)) ⟨zset μ2 42 k (nI g), rfl, ⟨fun x hx => zs_ne (by omega), fun j hj => by rw [zs_ne (by omega)], fun j hj => by rw [zs_eq, zu_ne (by omega)]⟩, zs_ne (by omega), zs_ne (by omega), by rw [zs_eq, zu_eq], fun j hj => absurd hj (by omega)⟩ ?_
          rintro c σ Ny hNy hcn ⟨μ3, rfl, y1, y2, y3, y4, y5⟩
          have hf3 := hf2.keep y1
          obtain ⟨c1, c2, c3, c4, c5, c6, c7, c8, c9⟩ := id hf3
          by_cases hcc : c < nc
          · have f1 : μ3.1 (54 + k) c = nI (usd base oft spn k a c) := by rw [y1.1 (54 + k) (by omega), w1.1 (54 + k) (by omega)]; exact hu c hcc
            have f2 := (c7 k c hkn hcc).1
            have f3 := (c8 g hin).1
            have c66 : c < 6 := by omega
            have k17 : k + 1 < 7 := by omega
            have f4 : nI (usd base oft spn k a c) + nI (oft k c) * nI (spn g) = nI (usd base oft spn (k + 1) (4 * a + g) c) := by
              unfold usd
              rw [gp_s hin, ← Nat.add_assoc]
              unfold nI
              rw [← Int32.ofNat_mul, ← Int32.ofNat_add]
            have k8 : k < 8 := by omega
            simp (disch := first | omega | (simp (disch := omega) only [forall_eq', Value.category, or_true, true_or, Option.isSome_some, Option.getD_some, true_and, and_true, and_self, forall_const, reduceCtorEq, Bool.false_eq_true, ite_true, ite_false, reduceIte, Nat.reduceLT, Nat.reduceLeDiff, Nat.reduceEqDiff, Nat.reduceAdd, Nat.reduceMul, decide_true, decide_false, Bool.true_and, Bool.and_true, Bool.false_and, Bool.and_false, Bool.or_false, Bool.false_or, not_true_eq_false, not_false_eq_true, Classical.not_not, false_implies, implies_true, decide_eq_true_eq, decide_eq_false_iff_not, Bool.not_eq_true, Bool.not_eq_false, Bool.not_eq_eq_eq_not, Bool.and_eq_true, Bool.or_eq_true, Bool.not_true, Bool.not_false, exists_eq_left, Option.some.injEq, Value.int.injEq, Value.long.injEq, Value.ref.injEq, zofN, znr0, zvpN, nI_clamp, nI_ltI, nI_leI, nI_eq, nI_a1, zN_lt, zN_le, zN_gt, zN_ge, zN_eq, zN_m1, Nat.zero_le, zLE, zi_eq0, zi01b, zi01c, zlast, hcc, c5, f1, f2, f3, f4, c66, k17, k6, k8, hin, zIx53 hk7, zIx53 k17, zIx44 k8])) only [sSeq, sIf, sSkip, sDecI, sDecL, sDecR, sSetI, sSetL, sInc, sRetI, sRetZ, sRetL, sRetR, sRetV, sScope, sPut, sPutL, sUpd, sSt, sStL, sStU, sStUL, sCpy, sCpyL, sCS, sCV, sSw, zsw, sBrk, xP, xCS, xCV, xNz, xI, xAnd, xOr, xNot, xT, xB, xInc, xPre, xIncL, xEq, eK, eV, eW, eR, eB, eU, eD, eT, eI, eAnd, eOr, eNot, eF, eFL, eFR, eA, eAL, eAR, eN, eCS, eCV, aN, aI, aL, aR, zen, zli, zlj, zlr, zob, rdI, rdL, rdR, zfk, List.cons_append, List.nil_append, List.set_cons_zero, List.set_cons_succ, List.take_succ_cons, List.take_zero, List.length_cons, List.length_nil, List.getElem?_cons_zero, List.getElem?_cons_succ, forall_eq', Value.category, or_true, true_or, Option.isSome_some, Option.getD_some, true_and, and_true, and_self, forall_const, reduceCtorEq, Bool.false_eq_true, ite_true, ite_false, reduceIte, Nat.reduceLT, Nat.reduceLeDiff, Nat.reduceEqDiff, Nat.reduceAdd, Nat.reduceMul, decide_true, decide_false, Bool.true_and, Bool.and_true, Bool.false_and, Bool.and_false, Bool.or_false, Bool.false_or, not_true_eq_false, not_false_eq_true, Classical.not_not, false_implies, implies_true, decide_eq_true_eq, decide_eq_false_iff_not, Bool.not_eq_true, Bool.not_eq_false, Bool.not_eq_eq_eq_not, Bool.and_eq_true, Bool.or_eq_true, Bool.not_true, Bool.not_false, exists_eq_left, Option.some.injEq, Value.int.injEq, Value.long.injEq, Value.ref.injEq, zFx0, zFx1, zFx2, zFx3, zFx4, zFx5, zFx6, zFx7, zFx8, zFx9, zFx10, zFx11, zFx12, zFx13, zFx14, zFm0, zFm1, zFm2, zFm3, zFm4, zofN, znr0, zvpN, nI_clamp, nI_ltI, nI_leI, nI_eq, nI_a1, zN_lt, zN_le, zN_gt, zN_ge, zN_eq, zN_m1, Nat.zero_le, zLE, zi_eq0, zi01b, zi01c, zlast, hgi.f24, hgi.f25, hgi.f9, hgi.f18, hgi.f19, hgi.f56, hgi.f57, hgi.f134, hgi.f133, hgi.f20, hgi.f10, hgi.f88, hgi.f45, hgi.f78, hgi.f53, hgi.f32, hgi.f74, hgi.f61, hgi.f34, hgi.f127, hgi.f211, hgi.f73, hgi.f72, hgi.f209, hgi.f216, hgi.f29, hgi.f31, hgi.f30, hgi.f28, hgi.f27, hgi.f204, hgi.f205, hgi.f76, hgi.f77, hgi.f217, hgi.f187, hgi.f43, hgi.f42, hgi.f44, hgi.f186, hgi.f188, hgi.f35, hgi.f36, hgi.f37, hgi.f178, hgi.f180, hgi.f1, hgi.f2, hgi.f3, hgi.f4, hgi.f5, hgi.f153, hgi.f154, hgi.f155, hgi.f156, hgi.f157, hgi.f164, hgi.f165, hgi.f166, hgi.f81, hgi.f84, hgi.f85, hgi.f86, hgi.f87, hgi.f137, hgi.f175, hgi.f174, hgi.f191, hgi.f11, hgi.f12, hgi.f13, hgi.f14, hgi.f15, hgi.f16, hgi.f17, hgi.f80, hgi.f138, hgi.f141, hgi.f143, hgi.f145, hgi.f129, hgi.f130, hgi.f132, hgi.f135, hgi.f136, k129, k130, k132, k135, k11, k12, zset_self, k136 hgi.a, k143 hgi.dr, k174 hgi.dr, k191 hgi.dr, hcc, c5, f1, f2, f3, f4, c66, k17, k6, k8, hin, zIx53 hk7, zIx53 k17, zIx44 k8]
            exact ⟨hk7, hNy _ hcc ⟨_, rfl, ⟨fun x hx => by rw [zs_ne (by omega)]; exact y1.1 x hx, fun j hj => by rw [zs_ne (by omega)]; exact y1.2.1 j hj, fun j hj => by rw [zs_ne (by omega)]; exact y1.2.2 j hj⟩, by rw [zs_ne (by omega)]; exact y2, by rw [zs_ne (by omega)]; exact y3, by rw [zs_ne (by omega)]; exact y4, fun j hj => by
              rw [zs_eq]
              by_cases e : j = c
              · rw [e, zu_eq]
              · rw [zu_ne e]
                exact y5 j (by omega)⟩⟩
          · rw [show c = nc by omega] at y5 ⊢
            simp (disch := first | omega | (simp (disch := omega) only [forall_eq', Value.category, or_true, true_or, Option.isSome_some, Option.getD_some, true_and, and_true, and_self, forall_const, reduceCtorEq, Bool.false_eq_true, ite_true, ite_false, reduceIte, Nat.reduceLT, Nat.reduceLeDiff, Nat.reduceEqDiff, Nat.reduceAdd, Nat.reduceMul, decide_true, decide_false, Bool.true_and, Bool.and_true, Bool.false_and, Bool.and_false, Bool.or_false, Bool.false_or, not_true_eq_false, not_false_eq_true, Classical.not_not, false_implies, implies_true, decide_eq_true_eq, decide_eq_false_iff_not, Bool.not_eq_true, Bool.not_eq_false, Bool.not_eq_eq_eq_not, Bool.and_eq_true, Bool.or_eq_true, Bool.not_true, Bool.not_false, exists_eq_left, Option.some.injEq, Value.int.injEq, Value.long.injEq, Value.ref.injEq, zofN, znr0, zvpN, nI_clamp, nI_ltI, nI_leI, nI_eq, nI_a1, zN_lt, zN_le, zN_gt, zN_ge, zN_eq, zN_m1, Nat.zero_le, zLE, zi_eq0, zi01b, zi01c, zlast, c5, Nat.lt_irrefl])) only [sSeq, sIf, sSkip, sDecI, sDecL, sDecR, sSetI, sSetL, sInc, sRetI, sRetZ, sRetL, sRetR, sRetV, sScope, sPut, sPutL, sUpd, sSt, sStL, sStU, sStUL, sCpy, sCpyL, sCS, sCV, sSw, zsw, sBrk, xP, xCS, xCV, xNz, xI, xAnd, xOr, xNot, xT, xB, xInc, xPre, xIncL, xEq, eK, eV, eW, eR, eB, eU, eD, eT, eI, eAnd, eOr, eNot, eF, eFL, eFR, eA, eAL, eAR, eN, eCS, eCV, aN, aI, aL, aR, zen, zli, zlj, zlr, zob, rdI, rdL, rdR, zfk, List.cons_append, List.nil_append, List.set_cons_zero, List.set_cons_succ, List.take_succ_cons, List.take_zero, List.length_cons, List.length_nil, List.getElem?_cons_zero, List.getElem?_cons_succ, forall_eq', Value.category, or_true, true_or, Option.isSome_some, Option.getD_some, true_and, and_true, and_self, forall_const, reduceCtorEq, Bool.false_eq_true, ite_true, ite_false, reduceIte, Nat.reduceLT, Nat.reduceLeDiff, Nat.reduceEqDiff, Nat.reduceAdd, Nat.reduceMul, decide_true, decide_false, Bool.true_and, Bool.and_true, Bool.false_and, Bool.and_false, Bool.or_false, Bool.false_or, not_true_eq_false, not_false_eq_true, Classical.not_not, false_implies, implies_true, decide_eq_true_eq, decide_eq_false_iff_not, Bool.not_eq_true, Bool.not_eq_false, Bool.not_eq_eq_eq_not, Bool.and_eq_true, Bool.or_eq_true, Bool.not_true, Bool.not_false, exists_eq_left, Option.some.injEq, Value.int.injEq, Value.long.injEq, Value.ref.injEq, zFx0, zFx1, zFx2, zFx3, zFx4, zFx5, zFx6, zFx7, zFx8, zFx9, zFx10, zFx11, zFx12, zFx13, zFx14, zFm0, zFm1, zFm2, zFm3, zFm4, zofN, znr0, zvpN, nI_clamp, nI_ltI, nI_leI, nI_eq, nI_a1, zN_lt, zN_le, zN_gt, zN_ge, zN_eq, zN_m1, Nat.zero_le, zLE, zi_eq0, zi01b, zi01c, zlast, hgi.f24, hgi.f25, hgi.f9, hgi.f18, hgi.f19, hgi.f56, hgi.f57, hgi.f134, hgi.f133, hgi.f20, hgi.f10, hgi.f88, hgi.f45, hgi.f78, hgi.f53, hgi.f32, hgi.f74, hgi.f61, hgi.f34, hgi.f127, hgi.f211, hgi.f73, hgi.f72, hgi.f209, hgi.f216, hgi.f29, hgi.f31, hgi.f30, hgi.f28, hgi.f27, hgi.f204, hgi.f205, hgi.f76, hgi.f77, hgi.f217, hgi.f187, hgi.f43, hgi.f42, hgi.f44, hgi.f186, hgi.f188, hgi.f35, hgi.f36, hgi.f37, hgi.f178, hgi.f180, hgi.f1, hgi.f2, hgi.f3, hgi.f4, hgi.f5, hgi.f153, hgi.f154, hgi.f155, hgi.f156, hgi.f157, hgi.f164, hgi.f165, hgi.f166, hgi.f81, hgi.f84, hgi.f85, hgi.f86, hgi.f87, hgi.f137, hgi.f175, hgi.f174, hgi.f191, hgi.f11, hgi.f12, hgi.f13, hgi.f14, hgi.f15, hgi.f16, hgi.f17, hgi.f80, hgi.f138, hgi.f141, hgi.f143, hgi.f145, hgi.f129, hgi.f130, hgi.f132, hgi.f135, hgi.f136, k129, k130, k132, k135, k11, k12, zset_self, k136 hgi.a, k143 hgi.dr, k174 hgi.dr, k191 hgi.dr, c5, Nat.lt_irrefl]
            refine ⟨k15 (d := d + (m + 1)) hgi.dr (by omega) hin ⟨rfl, rfl⟩, ?_⟩
            rw [(c9 k g hkn hin).1, nI_ad, ← gp_s hin]
            refine ih (d := d) (k := k + 1) (a := 4 * a + g) (μ := μ3) (s := rf (gpS pr n n) (okW nc room base oft spn n) s (a * 4 ^ (m + 1)) (g * 4 ^ m)) (by omega) hf3 (by rw [Nat.pow_succ]; omega) (fun p hp => ?_) y5 (GSt_c y2 y3 w2) fun μ' v1 v2 => ⟨rfl, hN μ' (w1.trans (y1.trans (v1.mono (Nat.le_succ k)))) ?_⟩
            · rw [dg_s hin (by omega)]
              by_cases e : p = k
              · rw [if_pos e, e]
                exact y4
              · rw [if_neg e, y1.2.2 p (by omega), w1.2.2 p (by omega)]
                exact hch p (by omega)
            · rw [Nat.succ_mul, rf_add, show a * 4 ^ (m + 1) + g * 4 ^ m = (4 * a + g) * 4 ^ m by rw [Nat.add_mul, Nat.pow_succ, Nat.mul_comm (4 ^ m), ← Nat.mul_assoc, Nat.mul_comm a]]
              exact v2
        · rw [show g = 4 by omega] at w2 ⊢
          simp (disch := first | omega | (simp (disch := omega) only [forall_eq', Value.category, or_true, true_or, Option.isSome_some, Option.getD_some, true_and, and_true, and_self, forall_const, reduceCtorEq, Bool.false_eq_true, ite_true, ite_false, reduceIte, Nat.reduceLT, Nat.reduceLeDiff, Nat.reduceEqDiff, Nat.reduceAdd, Nat.reduceMul, decide_true, decide_false, Bool.true_and, Bool.and_true, Bool.false_and, Bool.and_false, Bool.or_false, Bool.false_or, not_true_eq_false, not_false_eq_true, Classical.not_not, false_implies, implies_true, decide_eq_true_eq, decide_eq_false_iff_not, Bool.not_eq_true, Bool.not_eq_false, Bool.not_eq_eq_eq_not, Bool.and_eq_true, Bool.or_eq_true, Bool.not_true, Bool.not_false, exists_eq_left, Option.some.injEq, Value.int.injEq, Value.long.injEq, Value.ref.injEq, zofN, znr0, zvpN, nI_clamp, nI_ltI, nI_leI, nI_eq, nI_a1, zN_lt, zN_le, zN_gt, zN_ge, zN_eq, zN_m1, Nat.zero_le, zLE, zi_eq0, zi01b, zi01c, zlast, Nat.lt_irrefl])) only [sSeq, sIf, sSkip, sDecI, sDecL, sDecR, sSetI, sSetL, sInc, sRetI, sRetZ, sRetL, sRetR, sRetV, sScope, sPut, sPutL, sUpd, sSt, sStL, sStU, sStUL, sCpy, sCpyL, sCS, sCV, sSw, zsw, sBrk, xP, xCS, xCV, xNz, xI, xAnd, xOr, xNot, xT, xB, xInc, xPre, xIncL, xEq, eK, eV, eW, eR, eB, eU, eD, eT, eI, eAnd, eOr, eNot, eF, eFL, eFR, eA, eAL, eAR, eN, eCS, eCV, aN, aI, aL, aR, zen, zli, zlj, zlr, zob, rdI, rdL, rdR, zfk, List.cons_append, List.nil_append, List.set_cons_zero, List.set_cons_succ, List.take_succ_cons, List.take_zero, List.length_cons, List.length_nil, List.getElem?_cons_zero, List.getElem?_cons_succ, forall_eq', Value.category, or_true, true_or, Option.isSome_some, Option.getD_some, true_and, and_true, and_self, forall_const, reduceCtorEq, Bool.false_eq_true, ite_true, ite_false, reduceIte, Nat.reduceLT, Nat.reduceLeDiff, Nat.reduceEqDiff, Nat.reduceAdd, Nat.reduceMul, decide_true, decide_false, Bool.true_and, Bool.and_true, Bool.false_and, Bool.and_false, Bool.or_false, Bool.false_or, not_true_eq_false, not_false_eq_true, Classical.not_not, false_implies, implies_true, decide_eq_true_eq, decide_eq_false_iff_not, Bool.not_eq_true, Bool.not_eq_false, Bool.not_eq_eq_eq_not, Bool.and_eq_true, Bool.or_eq_true, Bool.not_true, Bool.not_false, exists_eq_left, Option.some.injEq, Value.int.injEq, Value.long.injEq, Value.ref.injEq, zFx0, zFx1, zFx2, zFx3, zFx4, zFx5, zFx6, zFx7, zFx8, zFx9, zFx10, zFx11, zFx12, zFx13, zFx14, zFm0, zFm1, zFm2, zFm3, zFm4, zofN, znr0, zvpN, nI_clamp, nI_ltI, nI_leI, nI_eq, nI_a1, zN_lt, zN_le, zN_gt, zN_ge, zN_eq, zN_m1, Nat.zero_le, zLE, zi_eq0, zi01b, zi01c, zlast, hgi.f24, hgi.f25, hgi.f9, hgi.f18, hgi.f19, hgi.f56, hgi.f57, hgi.f134, hgi.f133, hgi.f20, hgi.f10, hgi.f88, hgi.f45, hgi.f78, hgi.f53, hgi.f32, hgi.f74, hgi.f61, hgi.f34, hgi.f127, hgi.f211, hgi.f73, hgi.f72, hgi.f209, hgi.f216, hgi.f29, hgi.f31, hgi.f30, hgi.f28, hgi.f27, hgi.f204, hgi.f205, hgi.f76, hgi.f77, hgi.f217, hgi.f187, hgi.f43, hgi.f42, hgi.f44, hgi.f186, hgi.f188, hgi.f35, hgi.f36, hgi.f37, hgi.f178, hgi.f180, hgi.f1, hgi.f2, hgi.f3, hgi.f4, hgi.f5, hgi.f153, hgi.f154, hgi.f155, hgi.f156, hgi.f157, hgi.f164, hgi.f165, hgi.f166, hgi.f81, hgi.f84, hgi.f85, hgi.f86, hgi.f87, hgi.f137, hgi.f175, hgi.f174, hgi.f191, hgi.f11, hgi.f12, hgi.f13, hgi.f14, hgi.f15, hgi.f16, hgi.f17, hgi.f80, hgi.f138, hgi.f141, hgi.f143, hgi.f145, hgi.f129, hgi.f130, hgi.f132, hgi.f135, hgi.f136, k129, k130, k132, k135, k11, k12, zset_self, k136 hgi.a, k143 hgi.dr, k174 hgi.dr, k191 hgi.dr, Nat.lt_irrefl]
          refine h μ2 w1 ?_
          rw [show 4 ^ (m + 1) = 4 * 4 ^ m by rw [Nat.pow_succ, Nat.mul_comm]] at w2 ⊢
          exact w2
end KG2
