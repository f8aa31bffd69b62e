/-! loops whose 'continue' forgets what the loop's body declared -/
/-- as sFor; at 'continue' (label kc) the locals from m on are forgotten -/
def sForT (m kb kc : Nat) (c : XE Bool) (u a : ZSt) : ZSt := fun σ N P B => ∃ (I : Nat → ZS → Prop) (n : Nat), I n σ ∧ ∀ n σ, I n σ → c σ (fun t σ' => (t = true → a σ' (fun σ2 => u σ2 (fun σ3 => ∃ n', n' < n ∧ I n' σ3) P B) P (fun k σ2 => if k = kc then (∀ v, σ2.1[m - 1]? = some v → v.category = 1) ∧ u (σ2.1.take m, σ2.2) (fun σ3 => ∃ n', n' < n ∧ I n' σ3) P B else if k = kb then N σ2 else B k σ2)) ∧ (t = false → N σ'))
section ZS28
variable {G : ZG} {own : String} {cc : ByteArray} {nL d : Nat} {K : ZKt} {F : ZFt} {rt : Option FieldType} {w pc : Nat} {E : List Nat} {lb : Nat → List Nat}
theorem CS.forT {m kb kc T F pu p1 : Nat} {off : Int} {c : XE Bool} {u a : ZSt} (hc : CD G own cc nL d K rt 0 pc T F c) (ha : CS G own cc nL d K rt [pu] (fun k => if k = kc then [pu] else if k = kb then E else lb k) T a) (hu : CS G own cc nL d K rt [p1] lb pu u) (hd : decode cc p1 = .ok (.goto off, 3)) (ht : (p1 : Int) + off = (pc : Int)) (hF : F ∈ E) : CS G own cc nL d K rt E lb pc (sForT m kb kc c u a) := by
  intro p l e s m' args below meth c' P cl sl C σ N B hf kN kB
  obtain ⟨I, n, h0, hs⟩ := hf
  induction n using Nat.strongRecOn generalizing σ with
  | ind n ih =>
    have step : ∀ σ2, u σ2 (fun σ3 => ∃ n', n' < n ∧ I n' σ3) P B → zW G nL d p l e s m' args below meth c' P cl sl pu σ2 [] := fun σ2 h2 => by
      refine hu p l e s m' args below meth c' P cl sl C σ2 _ B h2 (fun σ3 h3 x hx => ?_) kB
      cases List.mem_singleton.mp hx
      obtain ⟨n', h3, h4⟩ := h3
      exact z_goto C hd ht (ih n' h3 σ3 h4)
    refine hc p l e s m' args below meth c' P cl sl C σ [] _ (Nat.le_refl _) (hs n σ h0) (fun σ' h => ha p l e s m' args below meth c' P cl sl C σ' _ _ (h.1 rfl) (fun σ2 h2 x hx => ?_) (fun k σ2 h2 x hx => ?_)) (fun σ' h => kN σ' (h.2 rfl) _ hF)
    · cases List.mem_singleton.mp hx
      exact step σ2 h2
    · by_cases h3 : k = kc
      · simp only [h3, if_true] at h2 hx
        cases List.mem_singleton.mp hx
        intro H locs ls hP hS hL
        exact step _ h2.2 H locs ls hP hS (zL_take hL m h2.1)
      · by_cases h4 : k = kb
        · simp only [if_neg h3, if_pos h4] at h2 hx
          exact kN σ2 h2 x hx
        · simp only [if_neg h3, if_neg h4] at h2 hx
          exact kB k σ2 h2 x hx
end ZS28
/-- SmallMakers$Chains.spreadTerm(IILSmallMakers$Drawing;)V -/
def be_8 (Z : List ZD) (K : ZKt) (F : ZFt) : ZSt := (sSeq (sSeq (sCS K 218 (aR (eFR Z 0 7 (eR 0)) (aL (eK (0 : Int64)) aN)))
  (sSeq (sScope 4 (sSeq (sDecI 4 (xP (eK ((-4) : Int32))))
  (sForT 5 1 2 (xP (eB (fun x y : Int32 => decide (x ≤ y)) (eV 4) (eK (4 : Int32)))) (sInc 4 1)
  (sScope 5 (sSeq (sDecL 5 (xP (eU (fun x : Int32 => x.toInt64) (eCV Value.int rdI Z 1 K F 18 (aR (eR 3) (aI (eV 2) (aI (eV 4) aN)))))))
  (sSeq (sIf (xP (eB (fun x y : Int64 => decide (x = y)) (eW 5) (eK (0 : Int64)))) (sBrk 2) sSkip)
  (sSeq (sDecI 7 (xP (eB (fun x y : Int32 => x * y) (eV 1) (eV 4))))
  (sSeq (sDecI 8 (xP (eB (fun x y : Int32 => if x < y then y else x) (eK (0 : Int32)) (eU (fun x : Int32 => -x) (eV 7)))))
  (sSeq (sDecI 9 (xP (eB (fun x y : Int32 => if y < x then y else x) (eN Z (eFR Z 0 6 (eR 0))) (eB (fun x y : Int32 => x - y) (eN Z (eFR Z 0 6 (eR 0))) (eV 7)))))
  (sScope 10 (sSeq (sDecI 10 (xP (eV 8)))
  (sWhl (xP (eB (fun x y : Int32 => decide (x < y)) (eV 10) (eV 9)))
  (sSeq (sStUL Z (eFR Z 0 7 (eR 0)) (eB (fun x y : Int32 => x + y) (eV 10) (eV 7)) (fun x y : Int64 => x + y) (eB (fun x y : Int64 => x * y) (eW 5) (eAL Z (eFR Z 0 6 (eR 0)) (eV 10))))
  (sInc 10 1))))))))))))))
  (sCpyL Z (eFR Z 0 7 (eR 0)) (eFR Z 0 6 (eR 0)) (eN Z (eFR Z 0 6 (eR 0))))))
  sRetV)
theorem ce_8 (G : ZG) (d : Nat) (K : ZKt) (F : ZFt) (hT : zt5 G.2.2.2) : CS G RX0 cX0_spreadTerm 11 d K (none) [] (fun _ => []) 0 (be_8 G.2.2.2 K F) := by
  unfold be_8
  exact (CS.seq 135 (CS.seq 8 (CS.callS (CA.ref (CE.getR (CE.aload_n rfl dX0_spreadTerm_0 zhd) fs_X0_33 dX0_spreadTerm_1 zhd) (CA.long (CE.lconst kJ_0 dX0_spreadTerm_4 zhd) CA.nil)) zi_218 cs_X0_100 (fun _ => rfl) dX0_spreadTerm_5 zhd)
  (CS.seq 117 (CS.scope (CS.seq 12 (CS.decI (CX.pure (CE.bipush kB_m4 dX0_spreadTerm_8 zhd)) (by decide) dX0_spreadTerm_10 zhd)
  (CS.forT (m := 5) (T := 18) (F := 117) (pu := 111) (p1 := 114) (kb := 1) (kc := 2) (CD.pure (CC.icmp_le_F (T := 18) (F := 117) (CE.iload dX0_spreadTerm_12 zhd) (CE.iconst kI_4 dX0_spreadTerm_14 zhd) dX0_spreadTerm_15 rfl rfl))
  (CS.scope (CS.seq 28 (CS.decL (CX.pure (CE.i2l (CE.callV (by decide) (CA.ref (CE.aload_n rfl dX0_spreadTerm_18 zhd) (CA.int (CE.iload_n rfl dX0_spreadTerm_19 zhd) (CA.int (CE.iload dX0_spreadTerm_20 zhd) CA.nil))) zi_18 cv_X0_110 (fun _ => rfl) dX0_spreadTerm_22 zhd) dX0_spreadTerm_25 zhd)) (by decide) dX0_spreadTerm_26 zhd)
  (CS.seq 38 (CS.ifT (F := 38) (CDT.of (CD.pure (CC.lcmp_eq_F (T := 35) (F := 38) (CE.lload dX0_spreadTerm_28 zhd) (CE.lconst kJ_0 dX0_spreadTerm_30 zhd) dX0_spreadTerm_31 dX0_spreadTerm_32 rfl rfl)) zhd) (CS.brk (q := 111) dX0_spreadTerm_35 rfl zhd) (CS.brk0 zhd) zhd)
  (CS.seq 44 (CS.decI (CX.pure (CE.imul (CE.iload_n rfl dX0_spreadTerm_38 zhd) (CE.iload dX0_spreadTerm_39 zhd) dX0_spreadTerm_41 zhd)) (by decide) dX0_spreadTerm_42 zhd)
  (CS.seq 53 (CS.decI (CX.pure (CE.mmax (by decide) (CE.iconst kI_0 dX0_spreadTerm_44 zhd) (CE.ineg (CE.iload dX0_spreadTerm_45 zhd) dX0_spreadTerm_47 zhd) mm_X0_113 dX0_spreadTerm_48 zhd)) (by decide) dX0_spreadTerm_51 zhd)
  (CS.seq 71 (CS.decI (CX.pure (CE.mmin (by decide) (CE.alen (CE.getR (CE.aload_n rfl dX0_spreadTerm_53 zhd) fs_X0_29 dX0_spreadTerm_54 zhd) dX0_spreadTerm_57 zhd hT) (CE.isub (CE.alen (CE.getR (CE.aload_n rfl dX0_spreadTerm_58 zhd) fs_X0_29 dX0_spreadTerm_59 zhd) dX0_spreadTerm_62 zhd hT) (CE.iload dX0_spreadTerm_63 zhd) dX0_spreadTerm_65 zhd) mm_X0_80 dX0_spreadTerm_66 zhd)) (by decide) dX0_spreadTerm_69 zhd)
  (CS.scope (CS.seq 75 (CS.decI (CX.pure (CE.iload dX0_spreadTerm_71 zhd)) (by decide) dX0_spreadTerm_73 zhd)
  (CS.whl (T := 82) (F := 111) (p1 := 108) (CD.pure (CC.icmp_lt_F (T := 82) (F := 111) (CE.iload dX0_spreadTerm_75 zhd) (CE.iload dX0_spreadTerm_77 zhd) dX0_spreadTerm_79 rfl rfl))
  (CS.seq 105 (CS.stUL (CE.getR (CE.aload_n rfl dX0_spreadTerm_82 zhd) fs_X0_33 dX0_spreadTerm_83 zhd) (CE.iadd (CE.iload dX0_spreadTerm_86 zhd) (CE.iload dX0_spreadTerm_88 zhd) dX0_spreadTerm_90 zhd) dX0_spreadTerm_91 dX0_spreadTerm_92 (CE.lmul (CE.lload dX0_spreadTerm_93 zhd) (CE.aldL (CE.getR (CE.aload_n rfl dX0_spreadTerm_95 zhd) fs_X0_29 dX0_spreadTerm_96 zhd) (CE.iload dX0_spreadTerm_99 zhd) dX0_spreadTerm_101 zhd) dX0_spreadTerm_102 zhd) rfl dX0_spreadTerm_103 dX0_spreadTerm_104 zhd)
  (CS.inc kI_1 (by decide) dX0_spreadTerm_105 zhd)) dX0_spreadTerm_108 rfl zhd))))))))) (CS.inc kI_1 (by decide) dX0_spreadTerm_111 zhd) dX0_spreadTerm_114 rfl zhd)))
  (CS.cpyL (CE.getR (CE.aload_n rfl dX0_spreadTerm_117 zhd) fs_X0_33 dX0_spreadTerm_118 zhd) dX0_spreadTerm_121 (CE.getR (CE.aload_n rfl dX0_spreadTerm_122 zhd) fs_X0_29 dX0_spreadTerm_123 zhd) dX0_spreadTerm_126 (CE.alen (CE.getR (CE.aload_n rfl dX0_spreadTerm_127 zhd) fs_X0_29 dX0_spreadTerm_128 zhd) dX0_spreadTerm_131 zhd hT) sy_X0_50 dX0_spreadTerm_132 zhd)))
  (CS.retV dX0_spreadTerm_135))
/-- SmallMakers$Machines.findSwap(LSmallMakers$Chains;LSmallMakers$Things;)Z -/
def be_38 (Z : List ZD) (K : ZKt) (F : ZFt) : ZSt := (sSeq (sDecI 3 (xP (eCV Value.int rdI Z 4 K F 37 (aR (eR 0) (aR (eR 1) (aR (eR 2) aN))))))
  (sSeq (sScope 4 (sSeq (sDecI 4 (xP (eK (0 : Int32))))
  (sWhl (xP (eB (fun x y : Int32 => decide (x < y)) (eV 4) (eK (8 : Int32))))
  (sSeq (sScope 5 (sSeq (sDecI 5 (xP (eK (0 : Int32))))
  (sWhl (xP (eB (fun x y : Int32 => decide (x < y)) (eV 5) (eK (6 : Int32))))
  (sSeq (sScope 6 (sSeq (sDecI 6 (xP (eB (fun x y : Int32 => x + y) (eV 5) (eK (1 : Int32)))))
  (sForT 7 5 6 (xP (eB (fun x y : Int32 => decide (x < y)) (eV 6) (eK (6 : Int32)))) (sInc 6 1)
  (sSeq (sDecI 7 (xP (eI (eU (fun x : Int32 => decide (¬ x = 0)) (eB (fun x y : Int32 => x &&& y) (eB (fun x y : Int32 => x &&& y) (eB (fun x y : Int32 => x >>> (y &&& 31)) (eV 3) (eV 5)) (eB (fun x y : Int32 => x >>> (y &&& 31)) (eV 3) (eV 6))) (eK (1 : Int32)))))))
  (sSeq (sIf (xOr (xP (eU (fun x : Int32 => decide (¬ x = 0)) (eV 7))) (xNot (xNz (xCV Value.int Z 4 K 39 (aR (eR 0) (aI (eV 4) (aI (eV 5) (aI (eV 6) (aR (eR 1) (aR (eR 2) aN)))))))))) (sBrk 6) sSkip)
  (sSeq (sPut Z false 4 4 (eR 0) (xP (eV 4)))
  (sSeq (sPut Z false 4 5 (eR 0) (xP (eV 5)))
  (sSeq (sPut Z false 4 6 (eR 0) (xP (eV 6)))
  (sRetZ (xP (eK (1 : Int32))))))))))))
  (sInc 5 1)))))
  (sInc 4 1)))))
  (sRetZ (xP (eK (0 : Int32))))))
theorem ce_38 (G : ZG) (d : Nat) (K : ZKt) (F : ZFt) (hT : zt5 G.2.2.2) : CS G RX4 cX4_findSwap 8 d K (some .boolean) [] (fun _ => []) 0 (be_38 G.2.2.2 K F) := by
  unfold be_38
  exact (CS.seq 7 (CS.decI_n (CX.pure (CE.callV (by decide) (CA.ref (CE.aload_n rfl dX4_findSwap_0 zhd) (CA.ref (CE.aload_n rfl dX4_findSwap_1 zhd) (CA.ref (CE.aload_n rfl dX4_findSwap_2 zhd) CA.nil))) zi_37 cv_X4_82 (fun _ => rfl) dX4_findSwap_3 zhd)) rfl (by decide) dX4_findSwap_6 zhd)
  (CS.seq 122 (CS.scope (CS.seq 10 (CS.decI (CX.pure (CE.iconst kI_0 dX4_findSwap_7 zhd)) (by decide) dX4_findSwap_8 zhd)
  (CS.whl (T := 17) (F := 122) (p1 := 119) (CD.pure (CC.icmp_lt_F (T := 17) (F := 122) (CE.iload dX4_findSwap_10 zhd) (CE.bipush kB_8 dX4_findSwap_12 zhd) dX4_findSwap_14 rfl rfl))
  (CS.seq 116 (CS.scope (CS.seq 20 (CS.decI (CX.pure (CE.iconst kI_0 dX4_findSwap_17 zhd)) (by decide) dX4_findSwap_18 zhd)
  (CS.whl (T := 27) (F := 116) (p1 := 113) (CD.pure (CC.icmp_lt_F (T := 27) (F := 116) (CE.iload dX4_findSwap_20 zhd) (CE.bipush kB_6 dX4_findSwap_22 zhd) dX4_findSwap_24 rfl rfl))
  (CS.seq 110 (CS.scope (CS.seq 33 (CS.decI (CX.pure (CE.iadd (CE.iload dX4_findSwap_27 zhd) (CE.iconst kI_1 dX4_findSwap_29 zhd) dX4_findSwap_30 zhd)) (by decide) dX4_findSwap_31 zhd)
  (CS.forT (m := 7) (T := 40) (F := 110) (pu := 104) (p1 := 107) (kb := 5) (kc := 6) (CD.pure (CC.icmp_lt_F (T := 40) (F := 110) (CE.iload dX4_findSwap_33 zhd) (CE.bipush kB_6 dX4_findSwap_35 zhd) dX4_findSwap_37 rfl rfl))
  (CS.seq 61 (CS.decI (CX.pure (CE.bool (T := 54) (F := 58) (q := 59) (CC.if_ne_F (T := 54) (F := 58) (CE.iand (CE.iand (CE.ishr (CE.iload_n rfl dX4_findSwap_40 zhd) (CE.iload dX4_findSwap_41 zhd) dX4_findSwap_43 zhd) (CE.ishr (CE.iload_n rfl dX4_findSwap_44 zhd) (CE.iload dX4_findSwap_45 zhd) dX4_findSwap_47 zhd) dX4_findSwap_48 zhd) (CE.iconst kI_1 dX4_findSwap_49 zhd) dX4_findSwap_50 zhd) dX4_findSwap_51 rfl rfl) dX4_findSwap_54 rfl dX4_findSwap_55 rfl zhd dX4_findSwap_58 zhd)) (by decide) dX4_findSwap_59 zhd)
  (CS.seq 84 (CS.ifT (F := 84) (CDT.or (CDT.of (CD.pure (CC.if_ne_T (T := 104) (F := 66) (CE.iload dX4_findSwap_61 zhd) dX4_findSwap_63 rfl rfl)) zh1) (CDT.of (CD.not (CD.nz_T (T := 84) (F := 81) (CX.callV (by decide) (CA.ref (CE.aload_n rfl dX4_findSwap_66 zhd) (CA.int (CE.iload dX4_findSwap_67 zhd) (CA.int (CE.iload dX4_findSwap_69 zhd) (CA.int (CE.iload dX4_findSwap_71 zhd) (CA.ref (CE.aload_n rfl dX4_findSwap_73 zhd) (CA.ref (CE.aload_n rfl dX4_findSwap_74 zhd) CA.nil)))))) zi_39 cv_X4_86 (fun _ => rfl) dX4_findSwap_75 zhd) dX4_findSwap_78 rfl rfl)) zhd)) (CS.brk (q := 104) dX4_findSwap_81 rfl zhd) (CS.brk0 zhd) zhd)
  (CS.seq 90 (CS.put (CE.aload_n rfl dX4_findSwap_84 zhd) (CX.pure (CE.iload dX4_findSwap_85 zhd)) fp_X4_90 rfl dX4_findSwap_87 zhd)
  (CS.seq 96 (CS.put (CE.aload_n rfl dX4_findSwap_90 zhd) (CX.pure (CE.iload dX4_findSwap_91 zhd)) fp_X4_93 rfl dX4_findSwap_93 zhd)
  (CS.seq 102 (CS.put (CE.aload_n rfl dX4_findSwap_96 zhd) (CX.pure (CE.iload dX4_findSwap_97 zhd)) fp_X4_96 rfl dX4_findSwap_99 zhd)
  (CS.retZ (CX.pure (CE.iconst kI_1 dX4_findSwap_102 zhd)) dX4_findSwap_103)))))) (CS.inc kI_1 (by decide) dX4_findSwap_104 zhd) dX4_findSwap_107 rfl zhd)))
  (CS.inc kI_1 (by decide) dX4_findSwap_110 zhd)) dX4_findSwap_113 rfl zhd)))
  (CS.inc kI_1 (by decide) dX4_findSwap_116 zhd)) dX4_findSwap_119 rfl zhd)))
  (CS.retZ (CX.pure (CE.iconst kI_0 dX4_findSwap_122 zhd)) dX4_findSwap_123)))
/-- SmallMakers$Orders.choose(IILSmallMakers$Shops;)V -/
def be_48 (Z : List ZD) (K : ZKt) (F : ZFt) : ZSt := (sSeq (sSeq (sIf (xP (eOr (eB (fun x y : Int32 => decide (y < x)) (eV 1) (eF Z 5 0 (eR 0))) (eAnd (eB (fun x y : Int32 => decide (¬ x = y)) (eF Z 5 5 (eR 0)) (eK ((-1) : Int32))) (eB (fun x y : Int32 => decide (y ≤ x)) (eV 2) (eF Z 5 5 (eR 0)))))) sRetV sSkip)
  (sSeq (sIf (xP (eB (fun x y : Int32 => decide (x = y)) (eV 1) (eF Z 5 0 (eR 0)))) (sSeq (sPut Z false 5 5 (eR 0) (xP (eV 2)))
  (sSeq (sCpy Z (eFR Z 5 8 (eR 0)) (eFR Z 5 7 (eR 0)) (eF Z 5 0 (eR 0)))
  sRetV)) sSkip)
  (sScope 4 (sSeq (sDecI 4 (xP (eK (0 : Int32))))
  (sForT 5 1 2 (xP (eB (fun x y : Int32 => decide (x < y)) (eV 4) (eK (4 : Int32)))) (sInc 4 1)
  (sScope 5 (sSeq (sDecI 5 (xP (eA Z 0 (eAR Z (eFR Z 9 1 (eR 3)) (eV 4)) (eA Z 0 (eFR Z 5 1 (eR 0)) (eV 1)))))
  (sSeq (sIf (xOr (xP (eB (fun x y : Int32 => decide (x = y)) (eV 4) (eF Z 5 6 (eR 0)))) (xP (eU (fun x : Int32 => decide (x = 0)) (eV 5)))) (sBrk 2) sSkip)
  (sSeq (sSt Z 0 (eFR Z 5 8 (eR 0)) (xP (eV 1)) (xP (eV 4)))
  (sIf (xP (eU (fun x : Int32 => decide (¬ x = 0)) (eCV Value.int rdI Z 5 K F 49 (aR (eR 0) (aI (eV 4) (aI (eV 1) (aR (eR 3) aN))))))) (sCV Z 5 K 48 (aR (eR 0) (aI (eB (fun x y : Int32 => x + y) (eV 1) (eK (1 : Int32))) (aI (eB (fun x y : Int32 => x + y) (eV 2) (eV 5)) (aR (eR 3) aN))))) sSkip))))))))))
  sRetV)
theorem ce_48 (G : ZG) (d : Nat) (K : ZKt) (F : ZFt) (hT : zt5 G.2.2.2) : CS G RX5 cX5_choose 6 d K (none) [] (fun _ => []) 0 (be_48 G.2.2.2 K F) := by
  unfold be_48
  exact (CS.seq 135 (CS.seq 25 (CS.if1 (T := 24) (F := 25) (CD.pure (CC.or (CC.icmp_gt_T (T := 24) (F := 8) (CE.iload_n rfl dX5_choose_0 zhd) (CE.getI (CE.aload_n rfl dX5_choose_1 zhd) fs_X5_27 dX5_choose_2 zhd) dX5_choose_5 rfl rfl) (CC.and (CC.icmp_ne_F (T := 16) (F := 25) (CE.getI (CE.aload_n rfl dX5_choose_8 zhd) fs_X5_37 dX5_choose_9 zhd) (CE.iconst kI_m1 dX5_choose_12 zhd) dX5_choose_13 rfl rfl) (CC.icmp_ge_F (T := 24) (F := 25) (CE.iload_n rfl dX5_choose_16 zhd) (CE.getI (CE.aload_n rfl dX5_choose_17 zhd) fs_X5_37 dX5_choose_18 zhd) dX5_choose_21 rfl rfl)))) (CS.retV dX5_choose_24) zhd)
  (CS.seq 56 (CS.if1 (T := 33) (F := 56) (CD.pure (CC.icmp_eq_F (T := 33) (F := 56) (CE.iload_n rfl dX5_choose_25 zhd) (CE.getI (CE.aload_n rfl dX5_choose_26 zhd) fs_X5_27 dX5_choose_27 zhd) dX5_choose_30 rfl rfl)) (CS.seq 38 (CS.put (CE.aload_n rfl dX5_choose_33 zhd) (CX.pure (CE.iload_n rfl dX5_choose_34 zhd)) fp_X5_37 rfl dX5_choose_35 zhd)
  (CS.seq 55 (CS.cpy (CE.getR (CE.aload_n rfl dX5_choose_38 zhd) fs_X5_24 dX5_choose_39 zhd) dX5_choose_42 (CE.getR (CE.aload_n rfl dX5_choose_43 zhd) fs_X5_21 dX5_choose_44 zhd) dX5_choose_47 (CE.getI (CE.aload_n rfl dX5_choose_48 zhd) fs_X5_27 dX5_choose_49 zhd) sy_X5_44 dX5_choose_52 zhd)
  (CS.retV dX5_choose_55))) zhd)
  (CS.scope (CS.seq 59 (CS.decI (CX.pure (CE.iconst kI_0 dX5_choose_56 zhd)) (by decide) dX5_choose_57 zhd)
  (CS.forT (m := 5) (T := 65) (F := 135) (pu := 129) (p1 := 132) (kb := 1) (kc := 2) (CD.pure (CC.icmp_lt_F (T := 65) (F := 135) (CE.iload dX5_choose_59 zhd) (CE.iconst kI_4 dX5_choose_61 zhd) dX5_choose_62 rfl rfl))
  (CS.scope (CS.seq 81 (CS.decI (CX.pure (CE.aldI (CE.aldR (CE.getR (CE.aload_n rfl dX5_choose_65 zhd) fs_X5_50 dX5_choose_66 zhd) (CE.iload dX5_choose_69 zhd) dX5_choose_71 zhd) (CE.aldI (CE.getR (CE.aload_n rfl dX5_choose_72 zhd) fs_X5_9 dX5_choose_73 zhd) (CE.iload_n rfl dX5_choose_76 zhd) (Or.inl ⟨rfl, dX5_choose_77⟩) zhd) (Or.inl ⟨rfl, dX5_choose_78⟩) zhd)) (by decide) dX5_choose_79 zhd)
  (CS.seq 98 (CS.ifT (F := 98) (CDT.or (CDT.of (CD.pure (CC.icmp_eq_T (T := 129) (F := 90) (CE.iload dX5_choose_81 zhd) (CE.getI (CE.aload_n rfl dX5_choose_83 zhd) fs_X5_34 dX5_choose_84 zhd) dX5_choose_87 rfl rfl)) zh1) (CDT.of (CD.pure (CC.if_eq_F (T := 95) (F := 98) (CE.iload dX5_choose_90 zhd) dX5_choose_92 rfl rfl)) zhd)) (CS.brk (q := 129) dX5_choose_95 rfl zhd) (CS.brk0 zhd) zhd)
  (CS.seq 106 (CS.st (CE.getR (CE.aload_n rfl dX5_choose_98 zhd) fs_X5_24 dX5_choose_99 zhd) (CX.pure (CE.iload_n rfl dX5_choose_102 zhd)) (CX.pure (CE.iload dX5_choose_103 zhd)) (Or.inl ⟨rfl, dX5_choose_105⟩) zhd)
  (CS.if1 (T := 117) (F := 129) (CD.pure (CC.if_ne_F (T := 117) (F := 129) (CE.callV (by decide) (CA.ref (CE.aload_n rfl dX5_choose_106 zhd) (CA.int (CE.iload dX5_choose_107 zhd) (CA.int (CE.iload_n rfl dX5_choose_109 zhd) (CA.ref (CE.aload_n rfl dX5_choose_110 zhd) CA.nil)))) zi_49 cv_X5_56 (fun _ => rfl) dX5_choose_111 zhd) dX5_choose_114 rfl rfl)) (CS.callV (CA.ref (CE.aload_n rfl dX5_choose_117 zhd) (CA.int (CE.iadd (CE.iload_n rfl dX5_choose_118 zhd) (CE.iconst kI_1 dX5_choose_119 zhd) dX5_choose_120 zhd) (CA.int (CE.iadd (CE.iload_n rfl dX5_choose_121 zhd) (CE.iload dX5_choose_122 zhd) dX5_choose_124 zhd) (CA.ref (CE.aload_n rfl dX5_choose_125 zhd) CA.nil)))) zi_48 cv_X5_40 (fun _ => rfl) dX5_choose_126 zhd) zhd))))) (CS.inc kI_1 (by decide) dX5_choose_129 zhd) dX5_choose_132 rfl zhd)))))
  (CS.retV dX5_choose_135))
/-- SmallMakers$Orders.inTime(IILSmallMakers$Shops;)Z -/
def be_49 (Z : List ZD) (K : ZKt) (F : ZFt) : ZSt := (sSeq (sDecI 4 (xP (eK (0 : Int32))))
  (sSeq (sScope 5 (sSeq (sDecI 5 (xP (eK (0 : Int32))))
  (sForT 6 1 2 (xP (eB (fun x y : Int32 => decide (x < y)) (eV 5) (eF Z 5 0 (eR 0)))) (sInc 5 1)
  (sScope 6 (sSeq (sDecI 6 (xP (eA Z 0 (eFR Z 5 3 (eR 0)) (eV 5))))
  (sSeq (sIf (xOr (xP (eB (fun x y : Int32 => decide (y < x)) (eV 6) (eV 2))) (xP (eB (fun x y : Int32 => decide (¬ x = y)) (eA Z 0 (eFR Z 5 8 (eR 0)) (eV 6)) (eV 1)))) (sBrk 2) sSkip)
  (sSeq (sSetI 4 (xP (eB (fun x y : Int32 => x + y) (eV 4) (eA Z 0 (eAR Z (eFR Z 9 2 (eR 3)) (eV 1)) (eA Z 0 (eFR Z 5 1 (eR 0)) (eV 6))))))
  (sIf (xP (eB (fun x y : Int32 => decide (y < x)) (eV 4) (eB (fun x y : Int32 => x * y) (eA Z 0 (eFR Z 5 2 (eR 0)) (eV 6)) (eA Z 0 (eFR Z 9 0 (eR 3)) (eV 1))))) (sRetZ (xP (eK (0 : Int32)))) sSkip))))))))
  (sRetZ (xP (eK (1 : Int32))))))
theorem ce_49 (G : ZG) (d : Nat) (K : ZKt) (F : ZFt) (hT : zt5 G.2.2.2) : CS G RX5 cX5_inTime 7 d K (some .boolean) [] (fun _ => []) 0 (be_49 G.2.2.2 K F) := by
  unfold be_49
  exact (CS.seq 3 (CS.decI (CX.pure (CE.iconst kI_0 dX5_inTime_0 zhd)) (by decide) dX5_inTime_1 zhd)
  (CS.seq 90 (CS.scope (CS.seq 6 (CS.decI (CX.pure (CE.iconst kI_0 dX5_inTime_3 zhd)) (by decide) dX5_inTime_4 zhd)
  (CS.forT (m := 6) (T := 15) (F := 90) (pu := 84) (p1 := 87) (kb := 1) (kc := 2) (CD.pure (CC.icmp_lt_F (T := 15) (F := 90) (CE.iload dX5_inTime_6 zhd) (CE.getI (CE.aload_n rfl dX5_inTime_8 zhd) fs_X5_27 dX5_inTime_9 zhd) dX5_inTime_12 rfl rfl))
  (CS.scope (CS.seq 24 (CS.decI (CX.pure (CE.aldI (CE.getR (CE.aload_n rfl dX5_inTime_15 zhd) fs_X5_18 dX5_inTime_16 zhd) (CE.iload dX5_inTime_19 zhd) (Or.inl ⟨rfl, dX5_inTime_21⟩) zhd)) (by decide) dX5_inTime_22 zhd)
  (CS.seq 44 (CS.ifT (F := 44) (CDT.or (CDT.of (CD.pure (CC.icmp_gt_T (T := 84) (F := 30) (CE.iload dX5_inTime_24 zhd) (CE.iload_n rfl dX5_inTime_26 zhd) dX5_inTime_27 rfl rfl)) zh1) (CDT.of (CD.pure (CC.icmp_ne_F (T := 41) (F := 44) (CE.aldI (CE.getR (CE.aload_n rfl dX5_inTime_30 zhd) fs_X5_24 dX5_inTime_31 zhd) (CE.iload dX5_inTime_34 zhd) (Or.inl ⟨rfl, dX5_inTime_36⟩) zhd) (CE.iload_n rfl dX5_inTime_37 zhd) dX5_inTime_38 rfl rfl)) zhd)) (CS.brk (q := 84) dX5_inTime_41 rfl zhd) (CS.brk0 zhd) zhd)
  (CS.seq 63 (CS.setI (CX.pure (CE.iadd (CE.iload dX5_inTime_44 zhd) (CE.aldI (CE.aldR (CE.getR (CE.aload_n rfl dX5_inTime_46 zhd) fs_X5_60 dX5_inTime_47 zhd) (CE.iload_n rfl dX5_inTime_50 zhd) dX5_inTime_51 zhd) (CE.aldI (CE.getR (CE.aload_n rfl dX5_inTime_52 zhd) fs_X5_9 dX5_inTime_53 zhd) (CE.iload dX5_inTime_56 zhd) (Or.inl ⟨rfl, dX5_inTime_58⟩) zhd) (Or.inl ⟨rfl, dX5_inTime_59⟩) zhd) dX5_inTime_60 zhd)) (by decide) dX5_inTime_61 zhd)
  (CS.if1 (T := 82) (F := 84) (CD.pure (CC.icmp_gt_F (T := 82) (F := 84) (CE.iload dX5_inTime_63 zhd) (CE.imul (CE.aldI (CE.getR (CE.aload_n rfl dX5_inTime_65 zhd) fs_X5_15 dX5_inTime_66 zhd) (CE.iload dX5_inTime_69 zhd) (Or.inl ⟨rfl, dX5_inTime_71⟩) zhd) (CE.aldI (CE.getR (CE.aload_n rfl dX5_inTime_72 zhd) fs_X5_63 dX5_inTime_73 zhd) (CE.iload_n rfl dX5_inTime_76 zhd) (Or.inl ⟨rfl, dX5_inTime_77⟩) zhd) dX5_inTime_78 zhd) dX5_inTime_79 rfl rfl)) (CS.retZ (CX.pure (CE.iconst kI_0 dX5_inTime_82 zhd)) dX5_inTime_83) zhd))))) (CS.inc kI_1 (by decide) dX5_inTime_84 zhd) dX5_inTime_87 rfl zhd)))
  (CS.retZ (CX.pure (CE.iconst kI_1 dX5_inTime_90 zhd)) dX5_inTime_91)))
/-- SmallMakers.lettersIn(J)I -/
def be_134 (Z : List ZD) (K : ZKt) (F : ZFt) : ZSt := (sSeq (sDecI 2 (xP (eK (0 : Int32))))
  (sSeq (sScope 3 (sSeq (sDecI 3 (xP (eK (0 : Int32))))
  (sForT 4 1 2 (xP (eB (fun x y : Int32 => decide (x < y)) (eV 3) (eK (8 : Int32)))) (sInc 3 1)
  (sScope 4 (sSeq (sDecI 4 (xP (eU (fun x : Int64 => x.toInt32) (eB (fun x y : Int64 => x &&& y) (eB (fun (x : Int64) (y : Int32) => (x.toUInt64 >>> (y.toInt64.toUInt64 &&& Int64.toUInt64 63)).toInt64) (eW 0) (eB (fun x y : Int32 => x * y) (eK (8 : Int32)) (eV 3))) (eK (255 : Int64))))))
  (sSeq (sIf (xP (eU (fun x : Int32 => decide (x = 0)) (eV 4))) (sBrk 2) sSkip)
  (sSeq (sIf (xP (eOr (eB (fun x y : Int32 => decide (y < x)) (eV 4) (eK (126 : Int32))) (eB (fun x y : Int32 => decide (x < y)) (eV 2) (eV 3)))) (sRetI (xP (eK ((-1) : Int32)))) sSkip)
  (sInc 2 1))))))))
  (sRetI (xP (eV 2)))))
theorem ce_134 (G : ZG) (d : Nat) (K : ZKt) (F : ZFt) (hT : zt5 G.2.2.2) : CS G RX11 cX11_lettersIn 5 d K (some .int) [] (fun _ => []) 0 (be_134 G.2.2.2 K F) := by
  unfold be_134
  exact (CS.seq 2 (CS.decI_n (CX.pure (CE.iconst kI_0 dX11_lettersIn_0 zhd)) rfl (by decide) dX11_lettersIn_1 zhd)
  (CS.seq 54 (CS.scope (CS.seq 4 (CS.decI_n (CX.pure (CE.iconst kI_0 dX11_lettersIn_2 zhd)) rfl (by decide) dX11_lettersIn_3 zhd)
  (CS.forT (m := 4) (T := 10) (F := 54) (pu := 48) (p1 := 51) (kb := 1) (kc := 2) (CD.pure (CC.icmp_lt_F (T := 10) (F := 54) (CE.iload_n rfl dX11_lettersIn_4 zhd) (CE.bipush kB_8 dX11_lettersIn_5 zhd) dX11_lettersIn_7 rfl rfl))
  (CS.scope (CS.seq 23 (CS.decI (CX.pure (CE.l2i (CE.land (CE.lushr (CE.lload_n rfl dX11_lettersIn_10 zhd) (CE.imul (CE.bipush kB_8 dX11_lettersIn_11 zhd) (CE.iload_n rfl dX11_lettersIn_13 zhd) dX11_lettersIn_14 zhd) dX11_lettersIn_15 zhd) (CE.ldc2 lc_X11_139 dX11_lettersIn_16 zhd) dX11_lettersIn_19 zhd) dX11_lettersIn_20 zhd)) (by decide) dX11_lettersIn_21 zhd)
  (CS.seq 31 (CS.ifT (F := 31) (CDT.of (CD.pure (CC.if_eq_F (T := 28) (F := 31) (CE.iload dX11_lettersIn_23 zhd) dX11_lettersIn_25 rfl rfl)) zhd) (CS.brk (q := 48) dX11_lettersIn_28 rfl zhd) (CS.brk0 zhd) zhd)
  (CS.seq 45 (CS.if1 (T := 43) (F := 45) (CD.pure (CC.or (CC.icmp_gt_T (T := 43) (F := 38) (CE.iload dX11_lettersIn_31 zhd) (CE.bipush kB_126 dX11_lettersIn_33 zhd) dX11_lettersIn_35 rfl rfl) (CC.icmp_lt_F (T := 43) (F := 45) (CE.iload_n rfl dX11_lettersIn_38 zhd) (CE.iload_n rfl dX11_lettersIn_39 zhd) dX11_lettersIn_40 rfl rfl))) (CS.retI (CX.pure (CE.iconst kI_m1 dX11_lettersIn_43 zhd)) dX11_lettersIn_44) zhd)
  (CS.inc kI_1 (by decide) dX11_lettersIn_45 zhd))))) (CS.inc kI_1 (by decide) dX11_lettersIn_48 zhd) dX11_lettersIn_51 rfl zhd)))
  (CS.retI (CX.pure (CE.iload_n rfl dX11_lettersIn_54 zhd)) dX11_lettersIn_55)))
