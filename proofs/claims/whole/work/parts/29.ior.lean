/-! a binary 'or' whose second half may change something; pairMost -/
section ZS29
variable {G : ZG} {own : String} {cc : ByteArray} {nL d : Nat} {K : ZKt} {F : ZFt} {rt : Option FieldType} {w pc : Nat} {E : List Nat} {lb : Nat → List Nat}
theorem CX.ior {p1 p2 : Nat} {a : PE Int32} {b : XE Int32} (ha : CE Value.int G own cc nL d K rt w pc [p1] a) (hb : CX Value.int G own cc nL d K rt (w + 1) p1 [p2] b) (hd : decode cc p2 = .ok (.ior, 1)) (hq : p2 + 1 ∈ E) : CX Value.int G own cc nL d K rt w pc E (xB (fun x y : Int32 => x ||| y) a b) := by
  intro p l e s m args below meth c P cl sl C σ rest Q hw hf kk
  refine ha p l e s m args below meth c P cl sl C σ rest hw hf.1 (fun q hq1 => ?_)
  cases List.mem_singleton.mp hq1
  refine hb p l e s m args below meth c P cl sl C σ _ _ (by simp [zcs, Value.category] at hw ⊢; omega) hf.2 (fun y σ' hy q hq1 => ?_)
  cases List.mem_singleton.mp hq1
  intro H locs ls hP hS hL
  exact lv_ior C.1 C.2.1 hd (kk _ _ hy _ hq H locs ls hP hS hL)
end ZS29
def be_63 (Z : List ZD) (K : ZKt) (F : ZFt) : ZSt := (sSeq (sSeq (sScope 1 (sSeq (sDecI 1 (xP (eK (0 : Int32))))
  (sFor 1 2 (xP (eB (fun x y : Int32 => decide (x < y)) (eV 1) (eK (24 : Int32)))) (sInc 1 1)
  (sIf (xNot (xNz (xCV Value.int Z 7 K 66 (aR (eR 0) (aI (eK (0 : Int32)) aN))))) (sBrk 1) sSkip))))
  (sSeq (sDecI 1 (xP (eK (0 : Int32))))
  (sScope 2 (sSeq (sDecI 2 (xP (eK (0 : Int32))))
  (sWhl (xP (eB (fun x y : Int32 => decide (x < y)) (eV 2) (eF Z 7 0 (eR 0))))
  (sSeq (sIf (xP (eB (fun x y : Int32 => decide (x = y)) (eA Z 0 (eFR Z 7 2 (eR 0)) (eV 2)) (eF Z 7 1 (eR 0)))) (sSetI 1 (xB (fun x y : Int32 => x ||| y) (eV 1) (xCV Value.int Z 7 K 64 (aR (eR 0) (aI (eV 2) (aI (eV 1) aN)))))) sSkip)
  (sInc 2 1)))))))
  sRetV)
theorem ce_63 (G : ZG) (d : Nat) (K : ZKt) (F : ZFt) (hT : zt5 G.2.2.2) : CS G RX7 cX7_pairMost 3 d K (none) [] (fun _ => []) 0 (be_63 G.2.2.2 K F) := by
  unfold be_63
  exact (CS.seq 65 (CS.seq 25 (CS.scope (CS.seq 2 (CS.decI_n (CX.pure (CE.iconst kI_0 dX7_pairMost_0 zhd)) rfl (by decide) dX7_pairMost_1 zhd)
  (CS.for (T := 8) (F := 25) (pu := 19) (p1 := 22) (kb := 1) (kc := 2) (CD.pure (CC.icmp_lt_F (T := 8) (F := 25) (CE.iload_n rfl dX7_pairMost_2 zhd) (CE.bipush kB_24 dX7_pairMost_3 zhd) dX7_pairMost_5 rfl rfl))
  (CS.ifT (F := 19) (CDT.of (CD.not (CD.nz_T (T := 19) (F := 16) (CX.callV (by decide) (CA.ref (CE.aload_n rfl dX7_pairMost_8 zhd) (CA.int (CE.iconst kI_0 dX7_pairMost_9 zhd) CA.nil)) zi_66 cv_X7_65 (fun _ => rfl) dX7_pairMost_10 zhd) dX7_pairMost_13 rfl rfl)) zhd) (CS.brk (q := 25) dX7_pairMost_16 rfl zhd) (CS.brk0 zhd) zhd) (CS.inc kI_1 (by decide) dX7_pairMost_19 zhd) dX7_pairMost_22 rfl zhd)))
  (CS.seq 27 (CS.decI_n (CX.pure (CE.iconst kI_0 dX7_pairMost_25 zhd)) rfl (by decide) dX7_pairMost_26 zhd)
  (CS.scope (CS.seq 29 (CS.decI_n (CX.pure (CE.iconst kI_0 dX7_pairMost_27 zhd)) rfl (by decide) dX7_pairMost_28 zhd)
  (CS.whl (T := 37) (F := 65) (p1 := 62) (CD.pure (CC.icmp_lt_F (T := 37) (F := 65) (CE.iload_n rfl dX7_pairMost_29 zhd) (CE.getI (CE.aload_n rfl dX7_pairMost_30 zhd) fs_X7_36 dX7_pairMost_31 zhd) dX7_pairMost_34 rfl rfl))
  (CS.seq 59 (CS.if1 (T := 50) (F := 59) (CD.pure (CC.icmp_eq_F (T := 50) (F := 59) (CE.aldI (CE.getR (CE.aload_n rfl dX7_pairMost_37 zhd) fs_X7_9 dX7_pairMost_38 zhd) (CE.iload_n rfl dX7_pairMost_41 zhd) (Or.inl ⟨rfl, dX7_pairMost_42⟩) zhd) (CE.getI (CE.aload_n rfl dX7_pairMost_43 zhd) fs_X7_37 dX7_pairMost_44 zhd) dX7_pairMost_47 rfl rfl)) (CS.setI_n (CX.ior (CE.iload_n rfl dX7_pairMost_50 zhd) (CX.callV (by decide) (CA.ref (CE.aload_n rfl dX7_pairMost_51 zhd) (CA.int (CE.iload_n rfl dX7_pairMost_52 zhd) (CA.int (CE.iload_n rfl dX7_pairMost_53 zhd) CA.nil))) zi_64 cv_X7_68 (fun _ => rfl) dX7_pairMost_54 zhd) dX7_pairMost_57 zhd) rfl (by decide) dX7_pairMost_58 zhd) zhd)
  (CS.inc kI_1 (by decide) dX7_pairMost_59 zhd)) dX7_pairMost_62 rfl zhd)))))
  (CS.retV dX7_pairMost_65))
