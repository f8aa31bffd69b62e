/-! code of the bodies 202 to 219 -/
theorem dX12_finds_0 : decode cX12_finds 0 = .ok (.iload_n 1, 1) := by decide +kernel
theorem dX12_finds_1 : decode cX12_finds 1 = .ok (.iconst 0, 1) := by decide +kernel
theorem dX12_finds_2 : decode cX12_finds 2 = .ok (.aload_n 0, 1) := by decide +kernel
theorem dX12_finds_3 : decode cX12_finds 3 = .ok (.getfield 293, 3) := by decide +kernel
theorem dX12_finds_6 : decode cX12_finds 6 = .ok (.iconst 1, 1) := by decide +kernel
theorem dX12_finds_7 : decode cX12_finds 7 = .ok (.isub, 1) := by decide +kernel
theorem dX12_finds_8 : decode cX12_finds 8 = .ok (.invokestatic 142, 3) := by decide +kernel
theorem dX12_finds_11 : decode cX12_finds 11 = .ok (.ifCond .eq 12, 3) := by decide +kernel
theorem dX12_finds_14 : decode cX12_finds 14 = .ok (.iload_n 2, 1) := by decide +kernel
theorem dX12_finds_15 : decode cX12_finds 15 = .ok (.iconst 0, 1) := by decide +kernel
theorem dX12_finds_16 : decode cX12_finds 16 = .ok (.iconst 3, 1) := by decide +kernel
theorem dX12_finds_17 : decode cX12_finds 17 = .ok (.invokestatic 142, 3) := by decide +kernel
theorem dX12_finds_20 : decode cX12_finds 20 = .ok (.ifCond .ne 6, 3) := by decide +kernel
theorem dX12_finds_23 : decode cX12_finds 23 = .ok (.bipush (-101), 2) := by decide +kernel
theorem dX12_finds_25 : decode cX12_finds 25 = .ok (.ireturn, 1) := by decide +kernel
theorem dX12_finds_26 : decode cX12_finds 26 = .ok (.iload_n 3, 1) := by decide +kernel
theorem dX12_finds_27 : decode cX12_finds 27 = .ok (.iconst 0, 1) := by decide +kernel
theorem dX12_finds_28 : decode cX12_finds 28 = .ok (.bipush 99, 2) := by decide +kernel
theorem dX12_finds_30 : decode cX12_finds 30 = .ok (.invokestatic 142, 3) := by decide +kernel
theorem dX12_finds_33 : decode cX12_finds 33 = .ok (.ifCond .ne 6, 3) := by decide +kernel
theorem dX12_finds_36 : decode cX12_finds 36 = .ok (.bipush (-102), 2) := by decide +kernel
theorem dX12_finds_38 : decode cX12_finds 38 = .ok (.ireturn, 1) := by decide +kernel
theorem dX12_finds_39 : decode cX12_finds 39 = .ok (.aload_n 0, 1) := by decide +kernel
theorem dX12_finds_40 : decode cX12_finds 40 = .ok (.getfield 92, 3) := by decide +kernel
theorem dX12_finds_43 : decode cX12_finds 43 = .ok (.iconst 4, 1) := by decide +kernel
theorem dX12_finds_44 : decode cX12_finds 44 = .ok (.iload_n 1, 1) := by decide +kernel
theorem dX12_finds_45 : decode cX12_finds 45 = .ok (.imul, 1) := by decide +kernel
theorem dX12_finds_46 : decode cX12_finds 46 = .ok (.iload_n 2, 1) := by decide +kernel
theorem dX12_finds_47 : decode cX12_finds 47 = .ok (.iadd, 1) := by decide +kernel
theorem dX12_finds_48 : decode cX12_finds 48 = .ok (.iaload, 1) := by decide +kernel
theorem dX12_finds_49 : decode cX12_finds 49 = .ok (.istore 4, 2) := by decide +kernel
theorem dX12_finds_51 : decode cX12_finds 51 = .ok (.aload_n 0, 1) := by decide +kernel
theorem dX12_finds_52 : decode cX12_finds 52 = .ok (.getfield 92, 3) := by decide +kernel
theorem dX12_finds_55 : decode cX12_finds 55 = .ok (.iconst 4, 1) := by decide +kernel
theorem dX12_finds_56 : decode cX12_finds 56 = .ok (.iload_n 1, 1) := by decide +kernel
theorem dX12_finds_57 : decode cX12_finds 57 = .ok (.imul, 1) := by decide +kernel
theorem dX12_finds_58 : decode cX12_finds 58 = .ok (.iload_n 2, 1) := by decide +kernel
theorem dX12_finds_59 : decode cX12_finds 59 = .ok (.iadd, 1) := by decide +kernel
theorem dX12_finds_60 : decode cX12_finds 60 = .ok (.iload_n 3, 1) := by decide +kernel
theorem dX12_finds_61 : decode cX12_finds 61 = .ok (.iastore, 1) := by decide +kernel
theorem dX12_finds_62 : decode cX12_finds 62 = .ok (.iload 4, 2) := by decide +kernel
theorem dX12_finds_64 : decode cX12_finds 64 = .ok (.ireturn, 1) := by decide +kernel
theorem cd_202 (G : ZG) (d : Nat) (K : ZKt) (F : ZFt) (hT : zt5 G.2.2.2) : CS G RX12 cX12_finds 5 d K (some .int) [] (fun _ => []) 0 (bd_202 G.2.2.2 K F) := by
  unfold bd_202
  exact (CS.seq 26 (CS.if1 (T := 23) (F := 26) (CD.pure (CC.or (CC.not (CC.if_ne_F (T := 14) (F := 23) (CE.callS (by decide) (CA.int (CE.iload_n rfl dX12_finds_0 zhd) (CA.int (CE.iconst kI_0 dX12_finds_1 zhd) (CA.int (CE.isub (CE.getI (CE.aload_n rfl dX12_finds_2 zhd) fs_X12_293 dX12_finds_3 zhd) (CE.iconst kI_1 dX12_finds_6 zhd) dX12_finds_7 zhd) CA.nil))) zi_135 cs_X12_142 (fun _ => rfl) dX12_finds_8 zhd) dX12_finds_11 rfl rfl)) (CC.not (CC.if_ne_T (T := 26) (F := 23) (CE.callS (by decide) (CA.int (CE.iload_n rfl dX12_finds_14 zhd) (CA.int (CE.iconst kI_0 dX12_finds_15 zhd) (CA.int (CE.iconst kI_3 dX12_finds_16 zhd) CA.nil))) zi_135 cs_X12_142 (fun _ => rfl) dX12_finds_17 zhd) dX12_finds_20 rfl rfl)))) (CS.retI (CX.pure (CE.bipush kB_m101 dX12_finds_23 zhd)) dX12_finds_25) zhd)
  (CS.seq 39 (CS.if1 (T := 36) (F := 39) (CD.pure (CC.not (CC.if_ne_T (T := 39) (F := 36) (CE.callS (by decide) (CA.int (CE.iload_n rfl dX12_finds_26 zhd) (CA.int (CE.iconst kI_0 dX12_finds_27 zhd) (CA.int (CE.bipush kB_99 dX12_finds_28 zhd) CA.nil))) zi_135 cs_X12_142 (fun _ => rfl) dX12_finds_30 zhd) dX12_finds_33 rfl rfl))) (CS.retI (CX.pure (CE.bipush kB_m102 dX12_finds_36 zhd)) dX12_finds_38) zhd)
  (CS.seq 51 (CS.decI (CX.pure (CE.aldI (CE.getR (CE.aload_n rfl dX12_finds_39 zhd) fs_X12_92 dX12_finds_40 zhd) (CE.iadd (CE.imul (CE.iconst kI_4 dX12_finds_43 zhd) (CE.iload_n rfl dX12_finds_44 zhd) dX12_finds_45 zhd) (CE.iload_n rfl dX12_finds_46 zhd) dX12_finds_47 zhd) (Or.inl ⟨rfl, dX12_finds_48⟩) zhd)) (by decide) dX12_finds_49 zhd)
  (CS.seq 62 (CS.st (CE.getR (CE.aload_n rfl dX12_finds_51 zhd) fs_X12_92 dX12_finds_52 zhd) (CX.pure (CE.iadd (CE.imul (CE.iconst kI_4 dX12_finds_55 zhd) (CE.iload_n rfl dX12_finds_56 zhd) dX12_finds_57 zhd) (CE.iload_n rfl dX12_finds_58 zhd) dX12_finds_59 zhd)) (CX.pure (CE.iload_n rfl dX12_finds_60 zhd)) (Or.inl ⟨rfl, dX12_finds_61⟩) zhd)
  (CS.retI (CX.pure (CE.iload dX12_finds_62 zhd)) dX12_finds_64)))))
theorem dX12_asked_0 : decode cX12_asked 0 = .ok (.iload_n 1, 1) := by decide +kernel
theorem dX12_asked_1 : decode cX12_asked 1 = .ok (.iconst 0, 1) := by decide +kernel
theorem dX12_asked_2 : decode cX12_asked 2 = .ok (.iconst 3, 1) := by decide +kernel
theorem dX12_asked_3 : decode cX12_asked 3 = .ok (.invokestatic 142, 3) := by decide +kernel
theorem dX12_asked_6 : decode cX12_asked 6 = .ok (.ifCond .ne 6, 3) := by decide +kernel
theorem dX12_asked_9 : decode cX12_asked 9 = .ok (.bipush (-101), 2) := by decide +kernel
theorem dX12_asked_11 : decode cX12_asked 11 = .ok (.ireturn, 1) := by decide +kernel
theorem dX12_asked_12 : decode cX12_asked 12 = .ok (.iload_n 2, 1) := by decide +kernel
theorem dX12_asked_13 : decode cX12_asked 13 = .ok (.iconst 0, 1) := by decide +kernel
theorem dX12_asked_14 : decode cX12_asked 14 = .ok (.bipush 99, 2) := by decide +kernel
theorem dX12_asked_16 : decode cX12_asked 16 = .ok (.invokestatic 142, 3) := by decide +kernel
theorem dX12_asked_19 : decode cX12_asked 19 = .ok (.ifCond .ne 6, 3) := by decide +kernel
theorem dX12_asked_22 : decode cX12_asked 22 = .ok (.bipush (-102), 2) := by decide +kernel
theorem dX12_asked_24 : decode cX12_asked 24 = .ok (.ireturn, 1) := by decide +kernel
theorem dX12_asked_25 : decode cX12_asked 25 = .ok (.aload_n 0, 1) := by decide +kernel
theorem dX12_asked_26 : decode cX12_asked 26 = .ok (.getfield 95, 3) := by decide +kernel
theorem dX12_asked_29 : decode cX12_asked 29 = .ok (.iload_n 1, 1) := by decide +kernel
theorem dX12_asked_30 : decode cX12_asked 30 = .ok (.iaload, 1) := by decide +kernel
theorem dX12_asked_31 : decode cX12_asked 31 = .ok (.istore_n 3, 1) := by decide +kernel
theorem dX12_asked_32 : decode cX12_asked 32 = .ok (.aload_n 0, 1) := by decide +kernel
theorem dX12_asked_33 : decode cX12_asked 33 = .ok (.getfield 95, 3) := by decide +kernel
theorem dX12_asked_36 : decode cX12_asked 36 = .ok (.iload_n 1, 1) := by decide +kernel
theorem dX12_asked_37 : decode cX12_asked 37 = .ok (.iload_n 2, 1) := by decide +kernel
theorem dX12_asked_38 : decode cX12_asked 38 = .ok (.iastore, 1) := by decide +kernel
theorem dX12_asked_39 : decode cX12_asked 39 = .ok (.iload_n 3, 1) := by decide +kernel
theorem dX12_asked_40 : decode cX12_asked 40 = .ok (.ireturn, 1) := by decide +kernel
theorem cd_203 (G : ZG) (d : Nat) (K : ZKt) (F : ZFt) (hT : zt5 G.2.2.2) : CS G RX12 cX12_asked 4 d K (some .int) [] (fun _ => []) 0 (bd_203 G.2.2.2 K F) := by
  unfold bd_203
  exact (CS.seq 12 (CS.if1 (T := 9) (F := 12) (CD.pure (CC.not (CC.if_ne_T (T := 12) (F := 9) (CE.callS (by decide) (CA.int (CE.iload_n rfl dX12_asked_0 zhd) (CA.int (CE.iconst kI_0 dX12_asked_1 zhd) (CA.int (CE.iconst kI_3 dX12_asked_2 zhd) CA.nil))) zi_135 cs_X12_142 (fun _ => rfl) dX12_asked_3 zhd) dX12_asked_6 rfl rfl))) (CS.retI (CX.pure (CE.bipush kB_m101 dX12_asked_9 zhd)) dX12_asked_11) zhd)
  (CS.seq 25 (CS.if1 (T := 22) (F := 25) (CD.pure (CC.not (CC.if_ne_T (T := 25) (F := 22) (CE.callS (by decide) (CA.int (CE.iload_n rfl dX12_asked_12 zhd) (CA.int (CE.iconst kI_0 dX12_asked_13 zhd) (CA.int (CE.bipush kB_99 dX12_asked_14 zhd) CA.nil))) zi_135 cs_X12_142 (fun _ => rfl) dX12_asked_16 zhd) dX12_asked_19 rfl rfl))) (CS.retI (CX.pure (CE.bipush kB_m102 dX12_asked_22 zhd)) dX12_asked_24) zhd)
  (CS.seq 32 (CS.decI_n (CX.pure (CE.aldI (CE.getR (CE.aload_n rfl dX12_asked_25 zhd) fs_X12_95 dX12_asked_26 zhd) (CE.iload_n rfl dX12_asked_29 zhd) (Or.inl ⟨rfl, dX12_asked_30⟩) zhd)) rfl (by decide) dX12_asked_31 zhd)
  (CS.seq 39 (CS.st (CE.getR (CE.aload_n rfl dX12_asked_32 zhd) fs_X12_95 dX12_asked_33 zhd) (CX.pure (CE.iload_n rfl dX12_asked_36 zhd)) (CX.pure (CE.iload_n rfl dX12_asked_37 zhd)) (Or.inl ⟨rfl, dX12_asked_38⟩) zhd)
  (CS.retI (CX.pure (CE.iload_n rfl dX12_asked_39 zhd)) dX12_asked_40)))))
theorem dX12_isEnough_0 : decode cX12_isEnough 0 = .ok (.iconst 1, 1) := by decide +kernel
theorem dX12_isEnough_1 : decode cX12_isEnough 1 = .ok (.istore_n 2, 1) := by decide +kernel
theorem dX12_isEnough_2 : decode cX12_isEnough 2 = .ok (.iconst 0, 1) := by decide +kernel
theorem dX12_isEnough_3 : decode cX12_isEnough 3 = .ok (.istore_n 3, 1) := by decide +kernel
theorem dX12_isEnough_4 : decode cX12_isEnough 4 = .ok (.iload_n 3, 1) := by decide +kernel
theorem dX12_isEnough_5 : decode cX12_isEnough 5 = .ok (.iconst 4, 1) := by decide +kernel
theorem dX12_isEnough_6 : decode cX12_isEnough 6 = .ok (.if_icmp .ge 101, 3) := by decide +kernel
theorem dX12_isEnough_9 : decode cX12_isEnough 9 = .ok (.ldc2_w 296, 3) := by decide +kernel
theorem dX12_isEnough_12 : decode cX12_isEnough 12 = .ok (.lstore 4, 2) := by decide +kernel
theorem dX12_isEnough_14 : decode cX12_isEnough 14 = .ok (.ldc2_w 296, 3) := by decide +kernel
theorem dX12_isEnough_17 : decode cX12_isEnough 17 = .ok (.aload_n 0, 1) := by decide +kernel
theorem dX12_isEnough_18 : decode cX12_isEnough 18 = .ok (.getfield 95, 3) := by decide +kernel
theorem dX12_isEnough_21 : decode cX12_isEnough 21 = .ok (.iload_n 3, 1) := by decide +kernel
theorem dX12_isEnough_22 : decode cX12_isEnough 22 = .ok (.iaload, 1) := by decide +kernel
theorem dX12_isEnough_23 : decode cX12_isEnough 23 = .ok (.i2l, 1) := by decide +kernel
theorem dX12_isEnough_24 : decode cX12_isEnough 24 = .ok (.lsub, 1) := by decide +kernel
theorem dX12_isEnough_25 : decode cX12_isEnough 25 = .ok (.lstore 6, 2) := by decide +kernel
theorem dX12_isEnough_27 : decode cX12_isEnough 27 = .ok (.iconst 0, 1) := by decide +kernel
theorem dX12_isEnough_28 : decode cX12_isEnough 28 = .ok (.istore 8, 2) := by decide +kernel
theorem dX12_isEnough_30 : decode cX12_isEnough 30 = .ok (.iload 8, 2) := by decide +kernel
theorem dX12_isEnough_32 : decode cX12_isEnough 32 = .ok (.aload_n 0, 1) := by decide +kernel
theorem dX12_isEnough_33 : decode cX12_isEnough 33 = .ok (.getfield 293, 3) := by decide +kernel
theorem dX12_isEnough_36 : decode cX12_isEnough 36 = .ok (.if_icmp .ge 47, 3) := by decide +kernel
theorem dX12_isEnough_39 : decode cX12_isEnough 39 = .ok (.iload_n 1, 1) := by decide +kernel
theorem dX12_isEnough_40 : decode cX12_isEnough 40 = .ok (.iload 8, 2) := by decide +kernel
theorem dX12_isEnough_42 : decode cX12_isEnough 42 = .ok (.ishr, 1) := by decide +kernel
theorem dX12_isEnough_43 : decode cX12_isEnough 43 = .ok (.iconst 1, 1) := by decide +kernel
theorem dX12_isEnough_44 : decode cX12_isEnough 44 = .ok (.iand, 1) := by decide +kernel
theorem dX12_isEnough_45 : decode cX12_isEnough 45 = .ok (.iconst 1, 1) := by decide +kernel
theorem dX12_isEnough_46 : decode cX12_isEnough 46 = .ok (.if_icmp .ne 31, 3) := by decide +kernel
theorem dX12_isEnough_49 : decode cX12_isEnough 49 = .ok (.lload 4, 2) := by decide +kernel
theorem dX12_isEnough_51 : decode cX12_isEnough 51 = .ok (.bipush 100, 2) := by decide +kernel
theorem dX12_isEnough_53 : decode cX12_isEnough 53 = .ok (.aload_n 0, 1) := by decide +kernel
theorem dX12_isEnough_54 : decode cX12_isEnough 54 = .ok (.getfield 92, 3) := by decide +kernel
theorem dX12_isEnough_57 : decode cX12_isEnough 57 = .ok (.iconst 4, 1) := by decide +kernel
theorem dX12_isEnough_58 : decode cX12_isEnough 58 = .ok (.iload 8, 2) := by decide +kernel
theorem dX12_isEnough_60 : decode cX12_isEnough 60 = .ok (.imul, 1) := by decide +kernel
theorem dX12_isEnough_61 : decode cX12_isEnough 61 = .ok (.iload_n 3, 1) := by decide +kernel
theorem dX12_isEnough_62 : decode cX12_isEnough 62 = .ok (.iadd, 1) := by decide +kernel
theorem dX12_isEnough_63 : decode cX12_isEnough 63 = .ok (.iaload, 1) := by decide +kernel
theorem dX12_isEnough_64 : decode cX12_isEnough 64 = .ok (.isub, 1) := by decide +kernel
theorem dX12_isEnough_65 : decode cX12_isEnough 65 = .ok (.i2l, 1) := by decide +kernel
theorem dX12_isEnough_66 : decode cX12_isEnough 66 = .ok (.lmul, 1) := by decide +kernel
theorem dX12_isEnough_67 : decode cX12_isEnough 67 = .ok (.lstore 4, 2) := by decide +kernel
theorem dX12_isEnough_69 : decode cX12_isEnough 69 = .ok (.lload 6, 2) := by decide +kernel
theorem dX12_isEnough_71 : decode cX12_isEnough 71 = .ok (.ldc2_w 296, 3) := by decide +kernel
theorem dX12_isEnough_74 : decode cX12_isEnough 74 = .ok (.lmul, 1) := by decide +kernel
theorem dX12_isEnough_75 : decode cX12_isEnough 75 = .ok (.lstore 6, 2) := by decide +kernel
theorem dX12_isEnough_77 : decode cX12_isEnough 77 = .ok (.iinc 8 1, 3) := by decide +kernel
theorem dX12_isEnough_80 : decode cX12_isEnough 80 = .ok (.goto (-50), 3) := by decide +kernel
theorem dX12_isEnough_83 : decode cX12_isEnough 83 = .ok (.iload_n 2, 1) := by decide +kernel
theorem dX12_isEnough_84 : decode cX12_isEnough 84 = .ok (.ifCond .eq 15, 3) := by decide +kernel
theorem dX12_isEnough_87 : decode cX12_isEnough 87 = .ok (.lload 4, 2) := by decide +kernel
theorem dX12_isEnough_89 : decode cX12_isEnough 89 = .ok (.lload 6, 2) := by decide +kernel
theorem dX12_isEnough_91 : decode cX12_isEnough 91 = .ok (.lcmp, 1) := by decide +kernel
theorem dX12_isEnough_92 : decode cX12_isEnough 92 = .ok (.ifCond .gt 7, 3) := by decide +kernel
theorem dX12_isEnough_95 : decode cX12_isEnough 95 = .ok (.iconst 1, 1) := by decide +kernel
theorem dX12_isEnough_96 : decode cX12_isEnough 96 = .ok (.goto 4, 3) := by decide +kernel
theorem dX12_isEnough_99 : decode cX12_isEnough 99 = .ok (.iconst 0, 1) := by decide +kernel
theorem dX12_isEnough_100 : decode cX12_isEnough 100 = .ok (.istore_n 2, 1) := by decide +kernel
theorem dX12_isEnough_101 : decode cX12_isEnough 101 = .ok (.iinc 3 1, 3) := by decide +kernel
theorem dX12_isEnough_104 : decode cX12_isEnough 104 = .ok (.goto (-100), 3) := by decide +kernel
theorem dX12_isEnough_107 : decode cX12_isEnough 107 = .ok (.iload_n 2, 1) := by decide +kernel
theorem dX12_isEnough_108 : decode cX12_isEnough 108 = .ok (.ireturn, 1) := by decide +kernel
theorem cd_204 (G : ZG) (d : Nat) (K : ZKt) (F : ZFt) (hT : zt5 G.2.2.2) : CS G RX12 cX12_isEnough 9 d K (some .boolean) [] (fun _ => []) 0 (bd_204 G.2.2.2 K F) := by
  unfold bd_204
  exact (CS.seq 2 (CS.decI_n (CX.pure (CE.iconst kI_1 dX12_isEnough_0 zhd)) rfl (by decide) dX12_isEnough_1 zhd)
  (CS.seq 107 (CS.scope (CS.seq 4 (CS.decI_n (CX.pure (CE.iconst kI_0 dX12_isEnough_2 zhd)) rfl (by decide) dX12_isEnough_3 zhd)
  (CS.whl (T := 9) (F := 107) (p1 := 104) (CD.pure (CC.icmp_lt_F (T := 9) (F := 107) (CE.iload_n rfl dX12_isEnough_4 zhd) (CE.iconst kI_4 dX12_isEnough_5 zhd) dX12_isEnough_6 rfl rfl))
  (CS.seq 101 (CS.scope (CS.seq 14 (CS.decL (CX.pure (CE.ldc2 lc_X12_296 dX12_isEnough_9 zhd)) (by decide) dX12_isEnough_12 zhd)
  (CS.seq 27 (CS.decL (CX.pure (CE.lsub (CE.ldc2 lc_X12_296 dX12_isEnough_14 zhd) (CE.i2l (CE.aldI (CE.getR (CE.aload_n rfl dX12_isEnough_17 zhd) fs_X12_95 dX12_isEnough_18 zhd) (CE.iload_n rfl dX12_isEnough_21 zhd) (Or.inl ⟨rfl, dX12_isEnough_22⟩) zhd) dX12_isEnough_23 zhd) dX12_isEnough_24 zhd)) (by decide) dX12_isEnough_25 zhd)
  (CS.seq 83 (CS.scope (CS.seq 30 (CS.decI (CX.pure (CE.iconst kI_0 dX12_isEnough_27 zhd)) (by decide) dX12_isEnough_28 zhd)
  (CS.whl (T := 39) (F := 83) (p1 := 80) (CD.pure (CC.icmp_lt_F (T := 39) (F := 83) (CE.iload dX12_isEnough_30 zhd) (CE.getI (CE.aload_n rfl dX12_isEnough_32 zhd) fs_X12_293 dX12_isEnough_33 zhd) dX12_isEnough_36 rfl rfl))
  (CS.seq 77 (CS.if1 (T := 49) (F := 77) (CD.pure (CC.icmp_eq_F (T := 49) (F := 77) (CE.iand (CE.ishr (CE.iload_n rfl dX12_isEnough_39 zhd) (CE.iload dX12_isEnough_40 zhd) dX12_isEnough_42 zhd) (CE.iconst kI_1 dX12_isEnough_43 zhd) dX12_isEnough_44 zhd) (CE.iconst kI_1 dX12_isEnough_45 zhd) dX12_isEnough_46 rfl rfl)) (CS.seq 69 (CS.setL (CX.pure (CE.lmul (CE.lload dX12_isEnough_49 zhd) (CE.i2l (CE.isub (CE.bipush kB_100 dX12_isEnough_51 zhd) (CE.aldI (CE.getR (CE.aload_n rfl dX12_isEnough_53 zhd) fs_X12_92 dX12_isEnough_54 zhd) (CE.iadd (CE.imul (CE.iconst kI_4 dX12_isEnough_57 zhd) (CE.iload dX12_isEnough_58 zhd) dX12_isEnough_60 zhd) (CE.iload_n rfl dX12_isEnough_61 zhd) dX12_isEnough_62 zhd) (Or.inl ⟨rfl, dX12_isEnough_63⟩) zhd) dX12_isEnough_64 zhd) dX12_isEnough_65 zhd) dX12_isEnough_66 zhd)) (by decide) dX12_isEnough_67 zhd)
  (CS.setL (CX.pure (CE.lmul (CE.lload dX12_isEnough_69 zhd) (CE.ldc2 lc_X12_296 dX12_isEnough_71 zhd) dX12_isEnough_74 zhd)) (by decide) dX12_isEnough_75 zhd)) zhd)
  (CS.inc kI_1 (by decide) dX12_isEnough_77 zhd)) dX12_isEnough_80 rfl zhd)))
  (CS.setI_n (CX.pure (CE.bool (T := 95) (F := 99) (q := 100) (CC.and (CC.if_ne_F (T := 87) (F := 99) (CE.iload_n rfl dX12_isEnough_83 zhd) dX12_isEnough_84 rfl rfl) (CC.lcmp_le_F (T := 95) (F := 99) (CE.lload dX12_isEnough_87 zhd) (CE.lload dX12_isEnough_89 zhd) dX12_isEnough_91 dX12_isEnough_92 rfl rfl)) dX12_isEnough_95 rfl dX12_isEnough_96 rfl zhd dX12_isEnough_99 zhd)) rfl (by decide) dX12_isEnough_100 zhd)))))
  (CS.inc kI_1 (by decide) dX12_isEnough_101 zhd)) dX12_isEnough_104 rfl zhd)))
  (CS.retZ (CX.pure (CE.iload_n rfl dX12_isEnough_107 zhd)) dX12_isEnough_108)))
theorem dX12_costsOf_0 : decode cX12_costsOf 0 = .ok (.iconst 0, 1) := by decide +kernel
theorem dX12_costsOf_1 : decode cX12_costsOf 1 = .ok (.istore_n 2, 1) := by decide +kernel
theorem dX12_costsOf_2 : decode cX12_costsOf 2 = .ok (.iconst 0, 1) := by decide +kernel
theorem dX12_costsOf_3 : decode cX12_costsOf 3 = .ok (.istore_n 3, 1) := by decide +kernel
theorem dX12_costsOf_4 : decode cX12_costsOf 4 = .ok (.iload_n 3, 1) := by decide +kernel
theorem dX12_costsOf_5 : decode cX12_costsOf 5 = .ok (.aload_n 0, 1) := by decide +kernel
theorem dX12_costsOf_6 : decode cX12_costsOf 6 = .ok (.getfield 293, 3) := by decide +kernel
theorem dX12_costsOf_9 : decode cX12_costsOf 9 = .ok (.if_icmp .ge 31, 3) := by decide +kernel
theorem dX12_costsOf_12 : decode cX12_costsOf 12 = .ok (.iload_n 2, 1) := by decide +kernel
theorem dX12_costsOf_13 : decode cX12_costsOf 13 = .ok (.iload_n 1, 1) := by decide +kernel
theorem dX12_costsOf_14 : decode cX12_costsOf 14 = .ok (.iload_n 3, 1) := by decide +kernel
theorem dX12_costsOf_15 : decode cX12_costsOf 15 = .ok (.ishr, 1) := by decide +kernel
theorem dX12_costsOf_16 : decode cX12_costsOf 16 = .ok (.iconst 1, 1) := by decide +kernel
theorem dX12_costsOf_17 : decode cX12_costsOf 17 = .ok (.iand, 1) := by decide +kernel
theorem dX12_costsOf_18 : decode cX12_costsOf 18 = .ok (.iconst 1, 1) := by decide +kernel
theorem dX12_costsOf_19 : decode cX12_costsOf 19 = .ok (.if_icmp .ne 12, 3) := by decide +kernel
theorem dX12_costsOf_22 : decode cX12_costsOf 22 = .ok (.aload_n 0, 1) := by decide +kernel
theorem dX12_costsOf_23 : decode cX12_costsOf 23 = .ok (.getfield 89, 3) := by decide +kernel
theorem dX12_costsOf_26 : decode cX12_costsOf 26 = .ok (.iload_n 3, 1) := by decide +kernel
theorem dX12_costsOf_27 : decode cX12_costsOf 27 = .ok (.iaload, 1) := by decide +kernel
theorem dX12_costsOf_28 : decode cX12_costsOf 28 = .ok (.goto 4, 3) := by decide +kernel
theorem dX12_costsOf_31 : decode cX12_costsOf 31 = .ok (.iconst 0, 1) := by decide +kernel
theorem dX12_costsOf_32 : decode cX12_costsOf 32 = .ok (.iadd, 1) := by decide +kernel
theorem dX12_costsOf_33 : decode cX12_costsOf 33 = .ok (.istore_n 2, 1) := by decide +kernel
theorem dX12_costsOf_34 : decode cX12_costsOf 34 = .ok (.iinc 3 1, 3) := by decide +kernel
theorem dX12_costsOf_37 : decode cX12_costsOf 37 = .ok (.goto (-33), 3) := by decide +kernel
theorem dX12_costsOf_40 : decode cX12_costsOf 40 = .ok (.iload_n 2, 1) := by decide +kernel
theorem dX12_costsOf_41 : decode cX12_costsOf 41 = .ok (.ireturn, 1) := by decide +kernel
theorem cd_205 (G : ZG) (d : Nat) (K : ZKt) (F : ZFt) (hT : zt5 G.2.2.2) : CS G RX12 cX12_costsOf 4 d K (some .int) [] (fun _ => []) 0 (bd_205 G.2.2.2 K F) := by
  unfold bd_205
  exact (CS.seq 2 (CS.decI_n (CX.pure (CE.iconst kI_0 dX12_costsOf_0 zhd)) rfl (by decide) dX12_costsOf_1 zhd)
  (CS.seq 40 (CS.scope (CS.seq 4 (CS.decI_n (CX.pure (CE.iconst kI_0 dX12_costsOf_2 zhd)) rfl (by decide) dX12_costsOf_3 zhd)
  (CS.whl (T := 12) (F := 40) (p1 := 37) (CD.pure (CC.icmp_lt_F (T := 12) (F := 40) (CE.iload_n rfl dX12_costsOf_4 zhd) (CE.getI (CE.aload_n rfl dX12_costsOf_5 zhd) fs_X12_293 dX12_costsOf_6 zhd) dX12_costsOf_9 rfl rfl))
  (CS.seq 34 (CS.setI_n (CX.pure (CE.iadd (CE.iload_n rfl dX12_costsOf_12 zhd) (CE.tern (T := 22) (F := 31) (p1 := 28) (q := 32) (CC.icmp_eq_F (T := 22) (F := 31) (CE.iand (CE.ishr (CE.iload_n rfl dX12_costsOf_13 zhd) (CE.iload_n rfl dX12_costsOf_14 zhd) dX12_costsOf_15 zhd) (CE.iconst kI_1 dX12_costsOf_16 zhd) dX12_costsOf_17 zhd) (CE.iconst kI_1 dX12_costsOf_18 zhd) dX12_costsOf_19 rfl rfl) (CE.aldI (CE.getR (CE.aload_n rfl dX12_costsOf_22 zhd) fs_X12_89 dX12_costsOf_23 zhd) (CE.iload_n rfl dX12_costsOf_26 zhd) (Or.inl ⟨rfl, dX12_costsOf_27⟩) zhd) zex2 dX12_costsOf_28 rfl zhd (CE.iconst kI_0 dX12_costsOf_31 zhd)) dX12_costsOf_32 zhd)) rfl (by decide) dX12_costsOf_33 zhd)
  (CS.inc kI_1 (by decide) dX12_costsOf_34 zhd)) dX12_costsOf_37 rfl zhd)))
  (CS.retI (CX.pure (CE.iload_n rfl dX12_costsOf_40 zhd)) dX12_costsOf_41)))
theorem dX12_enough_0 : decode cX12_enough 0 = .ok (.iload_n 1, 1) := by decide +kernel
theorem dX12_enough_1 : decode cX12_enough 1 = .ok (.iconst 0, 1) := by decide +kernel
theorem dX12_enough_2 : decode cX12_enough 2 = .ok (.iconst 1, 1) := by decide +kernel
theorem dX12_enough_3 : decode cX12_enough 3 = .ok (.invokestatic 142, 3) := by decide +kernel
theorem dX12_enough_6 : decode cX12_enough 6 = .ok (.ifCond .ne 6, 3) := by decide +kernel
theorem dX12_enough_9 : decode cX12_enough 9 = .ok (.bipush (-102), 2) := by decide +kernel
theorem dX12_enough_11 : decode cX12_enough 11 = .ok (.ireturn, 1) := by decide +kernel
theorem dX12_enough_12 : decode cX12_enough 12 = .ok (.iconst (-1), 1) := by decide +kernel
theorem dX12_enough_13 : decode cX12_enough 13 = .ok (.istore_n 2, 1) := by decide +kernel
theorem dX12_enough_14 : decode cX12_enough 14 = .ok (.iconst 0, 1) := by decide +kernel
theorem dX12_enough_15 : decode cX12_enough 15 = .ok (.istore_n 3, 1) := by decide +kernel
theorem dX12_enough_16 : decode cX12_enough 16 = .ok (.iload_n 3, 1) := by decide +kernel
theorem dX12_enough_17 : decode cX12_enough 17 = .ok (.iconst 1, 1) := by decide +kernel
theorem dX12_enough_18 : decode cX12_enough 18 = .ok (.aload_n 0, 1) := by decide +kernel
theorem dX12_enough_19 : decode cX12_enough 19 = .ok (.getfield 293, 3) := by decide +kernel
theorem dX12_enough_22 : decode cX12_enough 22 = .ok (.ishl, 1) := by decide +kernel
theorem dX12_enough_23 : decode cX12_enough 23 = .ok (.if_icmp .ge 66, 3) := by decide +kernel
theorem dX12_enough_26 : decode cX12_enough 26 = .ok (.aload_n 0, 1) := by decide +kernel
theorem dX12_enough_27 : decode cX12_enough 27 = .ok (.iload_n 3, 1) := by decide +kernel
theorem dX12_enough_28 : decode cX12_enough 28 = .ok (.invokevirtual 298, 3) := by decide +kernel
theorem dX12_enough_31 : decode cX12_enough 31 = .ok (.ifCond .eq 52, 3) := by decide +kernel
theorem dX12_enough_34 : decode cX12_enough 34 = .ok (.iload_n 2, 1) := by decide +kernel
theorem dX12_enough_35 : decode cX12_enough 35 = .ok (.iconst (-1), 1) := by decide +kernel
theorem dX12_enough_36 : decode cX12_enough 36 = .ok (.if_icmp .ne 7, 3) := by decide +kernel
theorem dX12_enough_39 : decode cX12_enough 39 = .ok (.iconst (-1), 1) := by decide +kernel
theorem dX12_enough_40 : decode cX12_enough 40 = .ok (.goto 14, 3) := by decide +kernel
theorem dX12_enough_43 : decode cX12_enough 43 = .ok (.aload_n 0, 1) := by decide +kernel
theorem dX12_enough_44 : decode cX12_enough 44 = .ok (.iload_n 3, 1) := by decide +kernel
theorem dX12_enough_45 : decode cX12_enough 45 = .ok (.invokevirtual 301, 3) := by decide +kernel
theorem dX12_enough_48 : decode cX12_enough 48 = .ok (.aload_n 0, 1) := by decide +kernel
theorem dX12_enough_49 : decode cX12_enough 49 = .ok (.iload_n 2, 1) := by decide +kernel
theorem dX12_enough_50 : decode cX12_enough 50 = .ok (.invokevirtual 301, 3) := by decide +kernel
theorem dX12_enough_53 : decode cX12_enough 53 = .ok (.isub, 1) := by decide +kernel
theorem dX12_enough_54 : decode cX12_enough 54 = .ok (.istore 4, 2) := by decide +kernel
theorem dX12_enough_56 : decode cX12_enough 56 = .ok (.iload 4, 2) := by decide +kernel
theorem dX12_enough_58 : decode cX12_enough 58 = .ok (.ifCond .lt 19, 3) := by decide +kernel
theorem dX12_enough_61 : decode cX12_enough 61 = .ok (.iload 4, 2) := by decide +kernel
theorem dX12_enough_63 : decode cX12_enough 63 = .ok (.ifCond .ne 18, 3) := by decide +kernel
theorem dX12_enough_66 : decode cX12_enough 66 = .ok (.iload_n 3, 1) := by decide +kernel
theorem dX12_enough_67 : decode cX12_enough 67 = .ok (.invokestatic 265, 3) := by decide +kernel
theorem dX12_enough_70 : decode cX12_enough 70 = .ok (.iload_n 2, 1) := by decide +kernel
theorem dX12_enough_71 : decode cX12_enough 71 = .ok (.invokestatic 265, 3) := by decide +kernel
theorem dX12_enough_74 : decode cX12_enough 74 = .ok (.if_icmp .ge 7, 3) := by decide +kernel
theorem dX12_enough_77 : decode cX12_enough 77 = .ok (.iload_n 3, 1) := by decide +kernel
theorem dX12_enough_78 : decode cX12_enough 78 = .ok (.goto 4, 3) := by decide +kernel
theorem dX12_enough_81 : decode cX12_enough 81 = .ok (.iload_n 2, 1) := by decide +kernel
theorem dX12_enough_82 : decode cX12_enough 82 = .ok (.istore_n 2, 1) := by decide +kernel
theorem dX12_enough_83 : decode cX12_enough 83 = .ok (.iinc 3 1, 3) := by decide +kernel
theorem dX12_enough_86 : decode cX12_enough 86 = .ok (.goto (-70), 3) := by decide +kernel
theorem dX12_enough_89 : decode cX12_enough 89 = .ok (.iload_n 2, 1) := by decide +kernel
theorem dX12_enough_90 : decode cX12_enough 90 = .ok (.iconst (-1), 1) := by decide +kernel
theorem dX12_enough_91 : decode cX12_enough 91 = .ok (.if_icmp .eq 7, 3) := by decide +kernel
theorem dX12_enough_94 : decode cX12_enough 94 = .ok (.iload_n 1, 1) := by decide +kernel
theorem dX12_enough_95 : decode cX12_enough 95 = .ok (.ifCond .ne 7, 3) := by decide +kernel
theorem dX12_enough_98 : decode cX12_enough 98 = .ok (.iload_n 2, 1) := by decide +kernel
theorem dX12_enough_99 : decode cX12_enough 99 = .ok (.goto 8, 3) := by decide +kernel
theorem dX12_enough_102 : decode cX12_enough 102 = .ok (.aload_n 0, 1) := by decide +kernel
theorem dX12_enough_103 : decode cX12_enough 103 = .ok (.iload_n 2, 1) := by decide +kernel
theorem dX12_enough_104 : decode cX12_enough 104 = .ok (.invokevirtual 301, 3) := by decide +kernel
theorem dX12_enough_107 : decode cX12_enough 107 = .ok (.ireturn, 1) := by decide +kernel
theorem cd_206 (G : ZG) (d : Nat) (K : ZKt) (F : ZFt) (hT : zt5 G.2.2.2) : CS G RX12 cX12_enough 5 d K (some .int) [] (fun _ => []) 0 (bd_206 G.2.2.2 K F) := by
  unfold bd_206
  exact (CS.seq 12 (CS.if1 (T := 9) (F := 12) (CD.pure (CC.not (CC.if_ne_T (T := 12) (F := 9) (CE.callS (by decide) (CA.int (CE.iload_n rfl dX12_enough_0 zhd) (CA.int (CE.iconst kI_0 dX12_enough_1 zhd) (CA.int (CE.iconst kI_1 dX12_enough_2 zhd) CA.nil))) zi_135 cs_X12_142 (fun _ => rfl) dX12_enough_3 zhd) dX12_enough_6 rfl rfl))) (CS.retI (CX.pure (CE.bipush kB_m102 dX12_enough_9 zhd)) dX12_enough_11) zhd)
  (CS.seq 14 (CS.decI_n (CX.pure (CE.iconst kI_m1 dX12_enough_12 zhd)) rfl (by decide) dX12_enough_13 zhd)
  (CS.seq 89 (CS.scope (CS.seq 16 (CS.decI_n (CX.pure (CE.iconst kI_0 dX12_enough_14 zhd)) rfl (by decide) dX12_enough_15 zhd)
  (CS.whl (T := 26) (F := 89) (p1 := 86) (CD.pure (CC.icmp_lt_F (T := 26) (F := 89) (CE.iload_n rfl dX12_enough_16 zhd) (CE.ishl (CE.iconst kI_1 dX12_enough_17 zhd) (CE.getI (CE.aload_n rfl dX12_enough_18 zhd) fs_X12_293 dX12_enough_19 zhd) dX12_enough_22 zhd) dX12_enough_23 rfl rfl))
  (CS.seq 83 (CS.if1 (T := 34) (F := 83) (CD.pure (CC.if_ne_F (T := 34) (F := 83) (CE.callV (by decide) (CA.ref (CE.aload_n rfl dX12_enough_26 zhd) (CA.int (CE.iload_n rfl dX12_enough_27 zhd) CA.nil)) zi_204 cv_X12_298 (fun _ => rfl) dX12_enough_28 zhd) dX12_enough_31 rfl rfl)) (CS.scope (CS.seq 56 (CS.decI (CX.pure (CE.tern (T := 39) (F := 43) (p1 := 40) (q := 54) (CC.icmp_eq_F (T := 39) (F := 43) (CE.iload_n rfl dX12_enough_34 zhd) (CE.iconst kI_m1 dX12_enough_35 zhd) dX12_enough_36 rfl rfl) (CE.iconst kI_m1 dX12_enough_39 zhd) zex2 dX12_enough_40 rfl zhd (CE.isub (CE.callV (by decide) (CA.ref (CE.aload_n rfl dX12_enough_43 zhd) (CA.int (CE.iload_n rfl dX12_enough_44 zhd) CA.nil)) zi_205 cv_X12_301 (fun _ => rfl) dX12_enough_45 zhd) (CE.callV (by decide) (CA.ref (CE.aload_n rfl dX12_enough_48 zhd) (CA.int (CE.iload_n rfl dX12_enough_49 zhd) CA.nil)) zi_205 cv_X12_301 (fun _ => rfl) dX12_enough_50 zhd) dX12_enough_53 zhd))) (by decide) dX12_enough_54 zhd)
  (CS.setI_n (CX.pure (CE.tern (T := 77) (F := 81) (p1 := 78) (q := 82) (CC.or (CC.if_lt_T (T := 77) (F := 61) (CE.iload dX12_enough_56 zhd) dX12_enough_58 rfl rfl) (CC.and (CC.if_eq_F (T := 66) (F := 81) (CE.iload dX12_enough_61 zhd) dX12_enough_63 rfl rfl) (CC.icmp_lt_F (T := 77) (F := 81) (CE.callS (by decide) (CA.int (CE.iload_n rfl dX12_enough_66 zhd) CA.nil) zi_187 cs_X12_265 (fun _ => rfl) dX12_enough_67 zhd) (CE.callS (by decide) (CA.int (CE.iload_n rfl dX12_enough_70 zhd) CA.nil) zi_187 cs_X12_265 (fun _ => rfl) dX12_enough_71 zhd) dX12_enough_74 rfl rfl))) (CE.iload_n rfl dX12_enough_77 zhd) zex2 dX12_enough_78 rfl zhd (CE.iload_n rfl dX12_enough_81 zhd))) rfl (by decide) dX12_enough_82 zhd))) zhd)
  (CS.inc kI_1 (by decide) dX12_enough_83 zhd)) dX12_enough_86 rfl zhd)))
  (CS.retI (CX.pure (CE.tern (T := 98) (F := 102) (p1 := 99) (q := 107) (CC.or (CC.icmp_eq_T (T := 98) (F := 94) (CE.iload_n rfl dX12_enough_89 zhd) (CE.iconst kI_m1 dX12_enough_90 zhd) dX12_enough_91 rfl rfl) (CC.if_eq_F (T := 98) (F := 102) (CE.iload_n rfl dX12_enough_94 zhd) dX12_enough_95 rfl rfl)) (CE.iload_n rfl dX12_enough_98 zhd) zex2 dX12_enough_99 rfl zhd (CE.callV (by decide) (CA.ref (CE.aload_n rfl dX12_enough_102 zhd) (CA.int (CE.iload_n rfl dX12_enough_103 zhd) CA.nil)) zi_205 cv_X12_301 (fun _ => rfl) dX12_enough_104 zhd))) dX12_enough_107))))
theorem dX12_made_0 : decode cX12_made 0 = .ok (.iload_n 1, 1) := by decide +kernel
theorem dX12_made_1 : decode cX12_made 1 = .ok (.iconst 0, 1) := by decide +kernel
theorem dX12_made_2 : decode cX12_made 2 = .ok (.bipush 99, 2) := by decide +kernel
theorem dX12_made_4 : decode cX12_made 4 = .ok (.invokestatic 142, 3) := by decide +kernel
theorem dX12_made_7 : decode cX12_made 7 = .ok (.ifCond .ne 6, 3) := by decide +kernel
theorem dX12_made_10 : decode cX12_made 10 = .ok (.bipush (-102), 2) := by decide +kernel
theorem dX12_made_12 : decode cX12_made 12 = .ok (.ireturn, 1) := by decide +kernel
theorem dX12_made_13 : decode cX12_made 13 = .ok (.aload_n 0, 1) := by decide +kernel
theorem dX12_made_14 : decode cX12_made 14 = .ok (.getfield 304, 3) := by decide +kernel
theorem dX12_made_17 : decode cX12_made 17 = .ok (.bipush 12, 2) := by decide +kernel
theorem dX12_made_19 : decode cX12_made 19 = .ok (.if_icmp .ne 6, 3) := by decide +kernel
theorem dX12_made_22 : decode cX12_made 22 = .ok (.bipush (-104), 2) := by decide +kernel
theorem dX12_made_24 : decode cX12_made 24 = .ok (.ireturn, 1) := by decide +kernel
theorem dX12_made_25 : decode cX12_made 25 = .ok (.aload_n 0, 1) := by decide +kernel
theorem dX12_made_26 : decode cX12_made 26 = .ok (.getfield 98, 3) := by decide +kernel
theorem dX12_made_29 : decode cX12_made 29 = .ok (.aload_n 0, 1) := by decide +kernel
theorem dX12_made_30 : decode cX12_made 30 = .ok (.getfield 304, 3) := by decide +kernel
theorem dX12_made_33 : decode cX12_made 33 = .ok (.iload_n 1, 1) := by decide +kernel
theorem dX12_made_34 : decode cX12_made 34 = .ok (.iastore, 1) := by decide +kernel
theorem dX12_made_35 : decode cX12_made 35 = .ok (.aload_n 0, 1) := by decide +kernel
theorem dX12_made_36 : decode cX12_made 36 = .ok (.dup, 1) := by decide +kernel
theorem dX12_made_37 : decode cX12_made 37 = .ok (.getfield 304, 3) := by decide +kernel
theorem dX12_made_40 : decode cX12_made 40 = .ok (.iconst 1, 1) := by decide +kernel
theorem dX12_made_41 : decode cX12_made 41 = .ok (.iadd, 1) := by decide +kernel
theorem dX12_made_42 : decode cX12_made 42 = .ok (.putfield 304, 3) := by decide +kernel
theorem dX12_made_45 : decode cX12_made 45 = .ok (.aload_n 0, 1) := by decide +kernel
theorem dX12_made_46 : decode cX12_made 46 = .ok (.getfield 304, 3) := by decide +kernel
theorem dX12_made_49 : decode cX12_made 49 = .ok (.ireturn, 1) := by decide +kernel
theorem cd_207 (G : ZG) (d : Nat) (K : ZKt) (F : ZFt) (hT : zt5 G.2.2.2) : CS G RX12 cX12_made 2 d K (some .int) [] (fun _ => []) 0 (bd_207 G.2.2.2 K F) := by
  unfold bd_207
  exact (CS.seq 13 (CS.if1 (T := 10) (F := 13) (CD.pure (CC.not (CC.if_ne_T (T := 13) (F := 10) (CE.callS (by decide) (CA.int (CE.iload_n rfl dX12_made_0 zhd) (CA.int (CE.iconst kI_0 dX12_made_1 zhd) (CA.int (CE.bipush kB_99 dX12_made_2 zhd) CA.nil))) zi_135 cs_X12_142 (fun _ => rfl) dX12_made_4 zhd) dX12_made_7 rfl rfl))) (CS.retI (CX.pure (CE.bipush kB_m102 dX12_made_10 zhd)) dX12_made_12) zhd)
  (CS.seq 25 (CS.if1 (T := 22) (F := 25) (CD.pure (CC.icmp_eq_F (T := 22) (F := 25) (CE.getI (CE.aload_n rfl dX12_made_13 zhd) fs_X12_304 dX12_made_14 zhd) (CE.bipush kB_12 dX12_made_17 zhd) dX12_made_19 rfl rfl)) (CS.retI (CX.pure (CE.bipush kB_m104 dX12_made_22 zhd)) dX12_made_24) zhd)
  (CS.seq 35 (CS.st (CE.getR (CE.aload_n rfl dX12_made_25 zhd) fs_X12_98 dX12_made_26 zhd) (CX.pure (CE.getI (CE.aload_n rfl dX12_made_29 zhd) fs_X12_304 dX12_made_30 zhd)) (CX.pure (CE.iload_n rfl dX12_made_33 zhd)) (Or.inl ⟨rfl, dX12_made_34⟩) zhd)
  (CS.seq 45 (CS.upd (CE.aload_n rfl dX12_made_35 zhd) dX12_made_36 dX12_made_37 (CE.iconst kI_1 dX12_made_40 zhd) (Or.inl ⟨rfl, dX12_made_41⟩) fs_X12_304 fp_X12_304 dX12_made_42 zhd)
  (CS.retI (CX.pure (CE.getI (CE.aload_n rfl dX12_made_45 zhd) fs_X12_304 dX12_made_46 zhd)) dX12_made_49)))))
theorem dX12_unmade_0 : decode cX12_unmade 0 = .ok (.aload_n 0, 1) := by decide +kernel
theorem dX12_unmade_1 : decode cX12_unmade 1 = .ok (.getfield 304, 3) := by decide +kernel
theorem dX12_unmade_4 : decode cX12_unmade 4 = .ok (.istore_n 1, 1) := by decide +kernel
theorem dX12_unmade_5 : decode cX12_unmade 5 = .ok (.aload_n 0, 1) := by decide +kernel
theorem dX12_unmade_6 : decode cX12_unmade 6 = .ok (.iconst 0, 1) := by decide +kernel
theorem dX12_unmade_7 : decode cX12_unmade 7 = .ok (.putfield 304, 3) := by decide +kernel
theorem dX12_unmade_10 : decode cX12_unmade 10 = .ok (.iload_n 1, 1) := by decide +kernel
theorem dX12_unmade_11 : decode cX12_unmade 11 = .ok (.ireturn, 1) := by decide +kernel
theorem cd_208 (G : ZG) (d : Nat) (K : ZKt) (F : ZFt) (hT : zt5 G.2.2.2) : CS G RX12 cX12_unmade 2 d K (some .int) [] (fun _ => []) 0 (bd_208 G.2.2.2 K F) := by
  unfold bd_208
  exact (CS.seq 5 (CS.decI_n (CX.pure (CE.getI (CE.aload_n rfl dX12_unmade_0 zhd) fs_X12_304 dX12_unmade_1 zhd)) rfl (by decide) dX12_unmade_4 zhd)
  (CS.seq 10 (CS.put (CE.aload_n rfl dX12_unmade_5 zhd) (CX.pure (CE.iconst kI_0 dX12_unmade_6 zhd)) fp_X12_304 rfl dX12_unmade_7 zhd)
  (CS.retI (CX.pure (CE.iload_n rfl dX12_unmade_10 zhd)) dX12_unmade_11)))
theorem dX12_offBy_0 : decode cX12_offBy 0 = .ok (.iconst 0, 1) := by decide +kernel
theorem dX12_offBy_1 : decode cX12_offBy 1 = .ok (.istore_n 3, 1) := by decide +kernel
theorem dX12_offBy_2 : decode cX12_offBy 2 = .ok (.iconst 0, 1) := by decide +kernel
theorem dX12_offBy_3 : decode cX12_offBy 3 = .ok (.istore 4, 2) := by decide +kernel
theorem dX12_offBy_5 : decode cX12_offBy 5 = .ok (.iconst 0, 1) := by decide +kernel
theorem dX12_offBy_6 : decode cX12_offBy 6 = .ok (.istore 5, 2) := by decide +kernel
theorem dX12_offBy_8 : decode cX12_offBy 8 = .ok (.iload 5, 2) := by decide +kernel
theorem dX12_offBy_10 : decode cX12_offBy 10 = .ok (.aload_n 0, 1) := by decide +kernel
theorem dX12_offBy_11 : decode cX12_offBy 11 = .ok (.getfield 304, 3) := by decide +kernel
theorem dX12_offBy_14 : decode cX12_offBy 14 = .ok (.if_icmp .ge 45, 3) := by decide +kernel
theorem dX12_offBy_17 : decode cX12_offBy 17 = .ok (.iload_n 3, 1) := by decide +kernel
theorem dX12_offBy_18 : decode cX12_offBy 18 = .ok (.iload_n 1, 1) := by decide +kernel
theorem dX12_offBy_19 : decode cX12_offBy 19 = .ok (.iload 5, 2) := by decide +kernel
theorem dX12_offBy_21 : decode cX12_offBy 21 = .ok (.ishr, 1) := by decide +kernel
theorem dX12_offBy_22 : decode cX12_offBy 22 = .ok (.iconst 1, 1) := by decide +kernel
theorem dX12_offBy_23 : decode cX12_offBy 23 = .ok (.iand, 1) := by decide +kernel
theorem dX12_offBy_24 : decode cX12_offBy 24 = .ok (.iconst 1, 1) := by decide +kernel
theorem dX12_offBy_25 : decode cX12_offBy 25 = .ok (.if_icmp .ne 13, 3) := by decide +kernel
theorem dX12_offBy_28 : decode cX12_offBy 28 = .ok (.aload_n 0, 1) := by decide +kernel
theorem dX12_offBy_29 : decode cX12_offBy 29 = .ok (.getfield 98, 3) := by decide +kernel
theorem dX12_offBy_32 : decode cX12_offBy 32 = .ok (.iload 5, 2) := by decide +kernel
theorem dX12_offBy_34 : decode cX12_offBy 34 = .ok (.iaload, 1) := by decide +kernel
theorem dX12_offBy_35 : decode cX12_offBy 35 = .ok (.goto 4, 3) := by decide +kernel
theorem dX12_offBy_38 : decode cX12_offBy 38 = .ok (.iconst 0, 1) := by decide +kernel
theorem dX12_offBy_39 : decode cX12_offBy 39 = .ok (.iadd, 1) := by decide +kernel
theorem dX12_offBy_40 : decode cX12_offBy 40 = .ok (.istore_n 3, 1) := by decide +kernel
theorem dX12_offBy_41 : decode cX12_offBy 41 = .ok (.iload 4, 2) := by decide +kernel
theorem dX12_offBy_43 : decode cX12_offBy 43 = .ok (.aload_n 0, 1) := by decide +kernel
theorem dX12_offBy_44 : decode cX12_offBy 44 = .ok (.getfield 98, 3) := by decide +kernel
theorem dX12_offBy_47 : decode cX12_offBy 47 = .ok (.iload 5, 2) := by decide +kernel
theorem dX12_offBy_49 : decode cX12_offBy 49 = .ok (.iaload, 1) := by decide +kernel
theorem dX12_offBy_50 : decode cX12_offBy 50 = .ok (.iadd, 1) := by decide +kernel
theorem dX12_offBy_51 : decode cX12_offBy 51 = .ok (.istore 4, 2) := by decide +kernel
theorem dX12_offBy_53 : decode cX12_offBy 53 = .ok (.iinc 5 1, 3) := by decide +kernel
theorem dX12_offBy_56 : decode cX12_offBy 56 = .ok (.goto (-48), 3) := by decide +kernel
theorem dX12_offBy_59 : decode cX12_offBy 59 = .ok (.aload_n 0, 1) := by decide +kernel
theorem dX12_offBy_60 : decode cX12_offBy 60 = .ok (.getfield 304, 3) := by decide +kernel
theorem dX12_offBy_63 : decode cX12_offBy 63 = .ok (.iload_n 3, 1) := by decide +kernel
theorem dX12_offBy_64 : decode cX12_offBy 64 = .ok (.imul, 1) := by decide +kernel
theorem dX12_offBy_65 : decode cX12_offBy 65 = .ok (.iload_n 2, 1) := by decide +kernel
theorem dX12_offBy_66 : decode cX12_offBy 66 = .ok (.iload 4, 2) := by decide +kernel
theorem dX12_offBy_68 : decode cX12_offBy 68 = .ok (.imul, 1) := by decide +kernel
theorem dX12_offBy_69 : decode cX12_offBy 69 = .ok (.isub, 1) := by decide +kernel
theorem dX12_offBy_70 : decode cX12_offBy 70 = .ok (.istore 5, 2) := by decide +kernel
theorem dX12_offBy_72 : decode cX12_offBy 72 = .ok (.iload 5, 2) := by decide +kernel
theorem dX12_offBy_74 : decode cX12_offBy 74 = .ok (.ifCond .ge 9, 3) := by decide +kernel
theorem dX12_offBy_77 : decode cX12_offBy 77 = .ok (.iload 5, 2) := by decide +kernel
theorem dX12_offBy_79 : decode cX12_offBy 79 = .ok (.ineg, 1) := by decide +kernel
theorem dX12_offBy_80 : decode cX12_offBy 80 = .ok (.goto 5, 3) := by decide +kernel
theorem dX12_offBy_83 : decode cX12_offBy 83 = .ok (.iload 5, 2) := by decide +kernel
theorem dX12_offBy_85 : decode cX12_offBy 85 = .ok (.ireturn, 1) := by decide +kernel
theorem cd_209 (G : ZG) (d : Nat) (K : ZKt) (F : ZFt) (hT : zt5 G.2.2.2) : CS G RX12 cX12_offBy 6 d K (some .int) [] (fun _ => []) 0 (bd_209 G.2.2.2 K F) := by
  unfold bd_209
  exact (CS.seq 2 (CS.decI_n (CX.pure (CE.iconst kI_0 dX12_offBy_0 zhd)) rfl (by decide) dX12_offBy_1 zhd)
  (CS.seq 5 (CS.decI (CX.pure (CE.iconst kI_0 dX12_offBy_2 zhd)) (by decide) dX12_offBy_3 zhd)
  (CS.seq 59 (CS.scope (CS.seq 8 (CS.decI (CX.pure (CE.iconst kI_0 dX12_offBy_5 zhd)) (by decide) dX12_offBy_6 zhd)
  (CS.whl (T := 17) (F := 59) (p1 := 56) (CD.pure (CC.icmp_lt_F (T := 17) (F := 59) (CE.iload dX12_offBy_8 zhd) (CE.getI (CE.aload_n rfl dX12_offBy_10 zhd) fs_X12_304 dX12_offBy_11 zhd) dX12_offBy_14 rfl rfl))
  (CS.seq 53 (CS.seq 41 (CS.setI_n (CX.pure (CE.iadd (CE.iload_n rfl dX12_offBy_17 zhd) (CE.tern (T := 28) (F := 38) (p1 := 35) (q := 39) (CC.icmp_eq_F (T := 28) (F := 38) (CE.iand (CE.ishr (CE.iload_n rfl dX12_offBy_18 zhd) (CE.iload dX12_offBy_19 zhd) dX12_offBy_21 zhd) (CE.iconst kI_1 dX12_offBy_22 zhd) dX12_offBy_23 zhd) (CE.iconst kI_1 dX12_offBy_24 zhd) dX12_offBy_25 rfl rfl) (CE.aldI (CE.getR (CE.aload_n rfl dX12_offBy_28 zhd) fs_X12_98 dX12_offBy_29 zhd) (CE.iload dX12_offBy_32 zhd) (Or.inl ⟨rfl, dX12_offBy_34⟩) zhd) zex2 dX12_offBy_35 rfl zhd (CE.iconst kI_0 dX12_offBy_38 zhd)) dX12_offBy_39 zhd)) rfl (by decide) dX12_offBy_40 zhd)
  (CS.setI (CX.pure (CE.iadd (CE.iload dX12_offBy_41 zhd) (CE.aldI (CE.getR (CE.aload_n rfl dX12_offBy_43 zhd) fs_X12_98 dX12_offBy_44 zhd) (CE.iload dX12_offBy_47 zhd) (Or.inl ⟨rfl, dX12_offBy_49⟩) zhd) dX12_offBy_50 zhd)) (by decide) dX12_offBy_51 zhd))
  (CS.inc kI_1 (by decide) dX12_offBy_53 zhd)) dX12_offBy_56 rfl zhd)))
  (CS.seq 72 (CS.decI (CX.pure (CE.isub (CE.imul (CE.getI (CE.aload_n rfl dX12_offBy_59 zhd) fs_X12_304 dX12_offBy_60 zhd) (CE.iload_n rfl dX12_offBy_63 zhd) dX12_offBy_64 zhd) (CE.imul (CE.iload_n rfl dX12_offBy_65 zhd) (CE.iload dX12_offBy_66 zhd) dX12_offBy_68 zhd) dX12_offBy_69 zhd)) (by decide) dX12_offBy_70 zhd)
  (CS.retI (CX.pure (CE.tern (T := 77) (F := 83) (p1 := 80) (q := 85) (CC.if_lt_F (T := 77) (F := 83) (CE.iload dX12_offBy_72 zhd) dX12_offBy_74 rfl rfl) (CE.ineg (CE.iload dX12_offBy_77 zhd) dX12_offBy_79 zhd) zex2 dX12_offBy_80 rfl zhd (CE.iload dX12_offBy_83 zhd))) dX12_offBy_85)))))
theorem dX12_drift_0 : decode cX12_drift 0 = .ok (.iload_n 1, 1) := by decide +kernel
theorem dX12_drift_1 : decode cX12_drift 1 = .ok (.iconst 1, 1) := by decide +kernel
theorem dX12_drift_2 : decode cX12_drift 2 = .ok (.aload_n 0, 1) := by decide +kernel
theorem dX12_drift_3 : decode cX12_drift 3 = .ok (.getfield 304, 3) := by decide +kernel
theorem dX12_drift_6 : decode cX12_drift 6 = .ok (.iconst 1, 1) := by decide +kernel
theorem dX12_drift_7 : decode cX12_drift 7 = .ok (.isub, 1) := by decide +kernel
theorem dX12_drift_8 : decode cX12_drift 8 = .ok (.invokestatic 142, 3) := by decide +kernel
theorem dX12_drift_11 : decode cX12_drift 11 = .ok (.ifCond .eq 12, 3) := by decide +kernel
theorem dX12_drift_14 : decode cX12_drift 14 = .ok (.iload_n 2, 1) := by decide +kernel
theorem dX12_drift_15 : decode cX12_drift 15 = .ok (.iconst 0, 1) := by decide +kernel
theorem dX12_drift_16 : decode cX12_drift 16 = .ok (.iconst 1, 1) := by decide +kernel
theorem dX12_drift_17 : decode cX12_drift 17 = .ok (.invokestatic 142, 3) := by decide +kernel
theorem dX12_drift_20 : decode cX12_drift 20 = .ok (.ifCond .ne 6, 3) := by decide +kernel
theorem dX12_drift_23 : decode cX12_drift 23 = .ok (.bipush (-102), 2) := by decide +kernel
theorem dX12_drift_25 : decode cX12_drift 25 = .ok (.ireturn, 1) := by decide +kernel
theorem dX12_drift_26 : decode cX12_drift 26 = .ok (.aload_n 0, 1) := by decide +kernel
theorem dX12_drift_27 : decode cX12_drift 27 = .ok (.iconst 1, 1) := by decide +kernel
theorem dX12_drift_28 : decode cX12_drift 28 = .ok (.iload_n 1, 1) := by decide +kernel
theorem dX12_drift_29 : decode cX12_drift 29 = .ok (.ishl, 1) := by decide +kernel
theorem dX12_drift_30 : decode cX12_drift 30 = .ok (.iconst 1, 1) := by decide +kernel
theorem dX12_drift_31 : decode cX12_drift 31 = .ok (.isub, 1) := by decide +kernel
theorem dX12_drift_32 : decode cX12_drift 32 = .ok (.iload_n 1, 1) := by decide +kernel
theorem dX12_drift_33 : decode cX12_drift 33 = .ok (.invokevirtual 307, 3) := by decide +kernel
theorem dX12_drift_36 : decode cX12_drift 36 = .ok (.istore_n 3, 1) := by decide +kernel
theorem dX12_drift_37 : decode cX12_drift 37 = .ok (.iconst 0, 1) := by decide +kernel
theorem dX12_drift_38 : decode cX12_drift 38 = .ok (.istore 4, 2) := by decide +kernel
theorem dX12_drift_40 : decode cX12_drift 40 = .ok (.iconst 0, 1) := by decide +kernel
theorem dX12_drift_41 : decode cX12_drift 41 = .ok (.istore 5, 2) := by decide +kernel
theorem dX12_drift_43 : decode cX12_drift 43 = .ok (.iconst 0, 1) := by decide +kernel
theorem dX12_drift_44 : decode cX12_drift 44 = .ok (.istore 6, 2) := by decide +kernel
theorem dX12_drift_46 : decode cX12_drift 46 = .ok (.iload 6, 2) := by decide +kernel
theorem dX12_drift_48 : decode cX12_drift 48 = .ok (.iconst 1, 1) := by decide +kernel
theorem dX12_drift_49 : decode cX12_drift 49 = .ok (.aload_n 0, 1) := by decide +kernel
theorem dX12_drift_50 : decode cX12_drift 50 = .ok (.getfield 304, 3) := by decide +kernel
theorem dX12_drift_53 : decode cX12_drift 53 = .ok (.ishl, 1) := by decide +kernel
theorem dX12_drift_54 : decode cX12_drift 54 = .ok (.if_icmp .ge 42, 3) := by decide +kernel
theorem dX12_drift_57 : decode cX12_drift 57 = .ok (.iload 6, 2) := by decide +kernel
theorem dX12_drift_59 : decode cX12_drift 59 = .ok (.invokestatic 265, 3) := by decide +kernel
theorem dX12_drift_62 : decode cX12_drift 62 = .ok (.iload_n 1, 1) := by decide +kernel
theorem dX12_drift_63 : decode cX12_drift 63 = .ok (.if_icmp .ne 27, 3) := by decide +kernel
theorem dX12_drift_66 : decode cX12_drift 66 = .ok (.iinc 4 1, 3) := by decide +kernel
theorem dX12_drift_69 : decode cX12_drift 69 = .ok (.iload 5, 2) := by decide +kernel
theorem dX12_drift_71 : decode cX12_drift 71 = .ok (.aload_n 0, 1) := by decide +kernel
theorem dX12_drift_72 : decode cX12_drift 72 = .ok (.iload 6, 2) := by decide +kernel
theorem dX12_drift_74 : decode cX12_drift 74 = .ok (.iload_n 1, 1) := by decide +kernel
theorem dX12_drift_75 : decode cX12_drift 75 = .ok (.invokevirtual 307, 3) := by decide +kernel
theorem dX12_drift_78 : decode cX12_drift 78 = .ok (.iload_n 3, 1) := by decide +kernel
theorem dX12_drift_79 : decode cX12_drift 79 = .ok (.if_icmp .lt 7, 3) := by decide +kernel
theorem dX12_drift_82 : decode cX12_drift 82 = .ok (.iconst 1, 1) := by decide +kernel
theorem dX12_drift_83 : decode cX12_drift 83 = .ok (.goto 4, 3) := by decide +kernel
theorem dX12_drift_86 : decode cX12_drift 86 = .ok (.iconst 0, 1) := by decide +kernel
theorem dX12_drift_87 : decode cX12_drift 87 = .ok (.iadd, 1) := by decide +kernel
theorem dX12_drift_88 : decode cX12_drift 88 = .ok (.istore 5, 2) := by decide +kernel
theorem dX12_drift_90 : decode cX12_drift 90 = .ok (.iinc 6 1, 3) := by decide +kernel
theorem dX12_drift_93 : decode cX12_drift 93 = .ok (.goto (-47), 3) := by decide +kernel
theorem dX12_drift_96 : decode cX12_drift 96 = .ok (.iload_n 2, 1) := by decide +kernel
theorem dX12_drift_97 : decode cX12_drift 97 = .ok (.ifCond .ne 8, 3) := by decide +kernel
theorem dX12_drift_100 : decode cX12_drift 100 = .ok (.iload 5, 2) := by decide +kernel
theorem dX12_drift_102 : decode cX12_drift 102 = .ok (.goto 5, 3) := by decide +kernel
theorem dX12_drift_105 : decode cX12_drift 105 = .ok (.iload 4, 2) := by decide +kernel
theorem dX12_drift_107 : decode cX12_drift 107 = .ok (.ireturn, 1) := by decide +kernel
theorem cd_210 (G : ZG) (d : Nat) (K : ZKt) (F : ZFt) (hT : zt5 G.2.2.2) : CS G RX12 cX12_drift 7 d K (some .int) [] (fun _ => []) 0 (bd_210 G.2.2.2 K F) := by
  unfold bd_210
  exact (CS.seq 26 (CS.if1 (T := 23) (F := 26) (CD.pure (CC.or (CC.not (CC.if_ne_F (T := 14) (F := 23) (CE.callS (by decide) (CA.int (CE.iload_n rfl dX12_drift_0 zhd) (CA.int (CE.iconst kI_1 dX12_drift_1 zhd) (CA.int (CE.isub (CE.getI (CE.aload_n rfl dX12_drift_2 zhd) fs_X12_304 dX12_drift_3 zhd) (CE.iconst kI_1 dX12_drift_6 zhd) dX12_drift_7 zhd) CA.nil))) zi_135 cs_X12_142 (fun _ => rfl) dX12_drift_8 zhd) dX12_drift_11 rfl rfl)) (CC.not (CC.if_ne_T (T := 26) (F := 23) (CE.callS (by decide) (CA.int (CE.iload_n rfl dX12_drift_14 zhd) (CA.int (CE.iconst kI_0 dX12_drift_15 zhd) (CA.int (CE.iconst kI_1 dX12_drift_16 zhd) CA.nil))) zi_135 cs_X12_142 (fun _ => rfl) dX12_drift_17 zhd) dX12_drift_20 rfl rfl)))) (CS.retI (CX.pure (CE.bipush kB_m102 dX12_drift_23 zhd)) dX12_drift_25) zhd)
  (CS.seq 37 (CS.decI_n (CX.pure (CE.callV (by decide) (CA.ref (CE.aload_n rfl dX12_drift_26 zhd) (CA.int (CE.isub (CE.ishl (CE.iconst kI_1 dX12_drift_27 zhd) (CE.iload_n rfl dX12_drift_28 zhd) dX12_drift_29 zhd) (CE.iconst kI_1 dX12_drift_30 zhd) dX12_drift_31 zhd) (CA.int (CE.iload_n rfl dX12_drift_32 zhd) CA.nil))) zi_209 cv_X12_307 (fun _ => rfl) dX12_drift_33 zhd)) rfl (by decide) dX12_drift_36 zhd)
  (CS.seq 40 (CS.decI (CX.pure (CE.iconst kI_0 dX12_drift_37 zhd)) (by decide) dX12_drift_38 zhd)
  (CS.seq 43 (CS.decI (CX.pure (CE.iconst kI_0 dX12_drift_40 zhd)) (by decide) dX12_drift_41 zhd)
  (CS.seq 96 (CS.scope (CS.seq 46 (CS.decI (CX.pure (CE.iconst kI_0 dX12_drift_43 zhd)) (by decide) dX12_drift_44 zhd)
  (CS.whl (T := 57) (F := 96) (p1 := 93) (CD.pure (CC.icmp_lt_F (T := 57) (F := 96) (CE.iload dX12_drift_46 zhd) (CE.ishl (CE.iconst kI_1 dX12_drift_48 zhd) (CE.getI (CE.aload_n rfl dX12_drift_49 zhd) fs_X12_304 dX12_drift_50 zhd) dX12_drift_53 zhd) dX12_drift_54 rfl rfl))
  (CS.seq 90 (CS.if1 (T := 66) (F := 90) (CD.pure (CC.icmp_eq_F (T := 66) (F := 90) (CE.callS (by decide) (CA.int (CE.iload dX12_drift_57 zhd) CA.nil) zi_187 cs_X12_265 (fun _ => rfl) dX12_drift_59 zhd) (CE.iload_n rfl dX12_drift_62 zhd) dX12_drift_63 rfl rfl)) (CS.seq 69 (CS.inc kI_1 (by decide) dX12_drift_66 zhd)
  (CS.setI (CX.pure (CE.iadd (CE.iload dX12_drift_69 zhd) (CE.tern (T := 82) (F := 86) (p1 := 83) (q := 87) (CC.icmp_ge_F (T := 82) (F := 86) (CE.callV (by decide) (CA.ref (CE.aload_n rfl dX12_drift_71 zhd) (CA.int (CE.iload dX12_drift_72 zhd) (CA.int (CE.iload_n rfl dX12_drift_74 zhd) CA.nil))) zi_209 cv_X12_307 (fun _ => rfl) dX12_drift_75 zhd) (CE.iload_n rfl dX12_drift_78 zhd) dX12_drift_79 rfl rfl) (CE.iconst kI_1 dX12_drift_82 zhd) zex2 dX12_drift_83 rfl zhd (CE.iconst kI_0 dX12_drift_86 zhd)) dX12_drift_87 zhd)) (by decide) dX12_drift_88 zhd)) zhd)
  (CS.inc kI_1 (by decide) dX12_drift_90 zhd)) dX12_drift_93 rfl zhd)))
  (CS.retI (CX.pure (CE.tern (T := 100) (F := 105) (p1 := 102) (q := 107) (CC.if_eq_F (T := 100) (F := 105) (CE.iload_n rfl dX12_drift_96 zhd) dX12_drift_97 rfl rfl) (CE.iload dX12_drift_100 zhd) zex2 dX12_drift_102 rfl zhd (CE.iload dX12_drift_105 zhd))) dX12_drift_107))))))
theorem dX12_howMany_0 : decode cX12_howMany 0 = .ok (.iconst 0, 1) := by decide +kernel
theorem dX12_howMany_1 : decode cX12_howMany 1 = .ok (.istore_n 2, 1) := by decide +kernel
theorem dX12_howMany_2 : decode cX12_howMany 2 = .ok (.iconst 0, 1) := by decide +kernel
theorem dX12_howMany_3 : decode cX12_howMany 3 = .ok (.istore_n 3, 1) := by decide +kernel
theorem dX12_howMany_4 : decode cX12_howMany 4 = .ok (.iconst 0, 1) := by decide +kernel
theorem dX12_howMany_5 : decode cX12_howMany 5 = .ok (.istore 4, 2) := by decide +kernel
theorem dX12_howMany_7 : decode cX12_howMany 7 = .ok (.iload 4, 2) := by decide +kernel
theorem dX12_howMany_9 : decode cX12_howMany 9 = .ok (.aload_n 0, 1) := by decide +kernel
theorem dX12_howMany_10 : decode cX12_howMany 10 = .ok (.getfield 146, 3) := by decide +kernel
theorem dX12_howMany_13 : decode cX12_howMany 13 = .ok (.if_icmp .ge 37, 3) := by decide +kernel
theorem dX12_howMany_16 : decode cX12_howMany 16 = .ok (.iload_n 2, 1) := by decide +kernel
theorem dX12_howMany_17 : decode cX12_howMany 17 = .ok (.aload_n 0, 1) := by decide +kernel
theorem dX12_howMany_18 : decode cX12_howMany 18 = .ok (.iload 4, 2) := by decide +kernel
theorem dX12_howMany_20 : decode cX12_howMany 20 = .ok (.invokevirtual 248, 3) := by decide +kernel
theorem dX12_howMany_23 : decode cX12_howMany 23 = .ok (.iconst (-1), 1) := by decide +kernel
theorem dX12_howMany_24 : decode cX12_howMany 24 = .ok (.if_icmp .ne 7, 3) := by decide +kernel
theorem dX12_howMany_27 : decode cX12_howMany 27 = .ok (.iconst 1, 1) := by decide +kernel
theorem dX12_howMany_28 : decode cX12_howMany 28 = .ok (.goto 4, 3) := by decide +kernel
theorem dX12_howMany_31 : decode cX12_howMany 31 = .ok (.iconst 0, 1) := by decide +kernel
theorem dX12_howMany_32 : decode cX12_howMany 32 = .ok (.iadd, 1) := by decide +kernel
theorem dX12_howMany_33 : decode cX12_howMany 33 = .ok (.istore_n 2, 1) := by decide +kernel
theorem dX12_howMany_34 : decode cX12_howMany 34 = .ok (.iload_n 3, 1) := by decide +kernel
theorem dX12_howMany_35 : decode cX12_howMany 35 = .ok (.aload_n 0, 1) := by decide +kernel
theorem dX12_howMany_36 : decode cX12_howMany 36 = .ok (.getfield 53, 3) := by decide +kernel
theorem dX12_howMany_39 : decode cX12_howMany 39 = .ok (.iload 4, 2) := by decide +kernel
theorem dX12_howMany_41 : decode cX12_howMany 41 = .ok (.iaload, 1) := by decide +kernel
theorem dX12_howMany_42 : decode cX12_howMany 42 = .ok (.iadd, 1) := by decide +kernel
theorem dX12_howMany_43 : decode cX12_howMany 43 = .ok (.istore_n 3, 1) := by decide +kernel
theorem dX12_howMany_44 : decode cX12_howMany 44 = .ok (.iinc 4 1, 3) := by decide +kernel
theorem dX12_howMany_47 : decode cX12_howMany 47 = .ok (.goto (-40), 3) := by decide +kernel
theorem dX12_howMany_50 : decode cX12_howMany 50 = .ok (.iload_n 1, 1) := by decide +kernel
theorem dX12_howMany_51 : decode cX12_howMany 51 = .ok (.tableswitch 97 0 9 #[53, 58, 63, 68, 73, 78, 83, 88, 93, 95], 53) := by decide +kernel
theorem dX12_howMany_104 : decode cX12_howMany 104 = .ok (.aload_n 0, 1) := by decide +kernel
theorem dX12_howMany_105 : decode cX12_howMany 105 = .ok (.getfield 186, 3) := by decide +kernel
theorem dX12_howMany_108 : decode cX12_howMany 108 = .ok (.ireturn, 1) := by decide +kernel
theorem dX12_howMany_109 : decode cX12_howMany 109 = .ok (.aload_n 0, 1) := by decide +kernel
theorem dX12_howMany_110 : decode cX12_howMany 110 = .ok (.getfield 146, 3) := by decide +kernel
theorem dX12_howMany_113 : decode cX12_howMany 113 = .ok (.ireturn, 1) := by decide +kernel
theorem dX12_howMany_114 : decode cX12_howMany 114 = .ok (.aload_n 0, 1) := by decide +kernel
theorem dX12_howMany_115 : decode cX12_howMany 115 = .ok (.getfield 278, 3) := by decide +kernel
theorem dX12_howMany_118 : decode cX12_howMany 118 = .ok (.ireturn, 1) := by decide +kernel
theorem dX12_howMany_119 : decode cX12_howMany 119 = .ok (.aload_n 0, 1) := by decide +kernel
theorem dX12_howMany_120 : decode cX12_howMany 120 = .ok (.getfield 293, 3) := by decide +kernel
theorem dX12_howMany_123 : decode cX12_howMany 123 = .ok (.ireturn, 1) := by decide +kernel
theorem dX12_howMany_124 : decode cX12_howMany 124 = .ok (.aload_n 0, 1) := by decide +kernel
theorem dX12_howMany_125 : decode cX12_howMany 125 = .ok (.getfield 304, 3) := by decide +kernel
theorem dX12_howMany_128 : decode cX12_howMany 128 = .ok (.ireturn, 1) := by decide +kernel
theorem dX12_howMany_129 : decode cX12_howMany 129 = .ok (.aload_n 0, 1) := by decide +kernel
theorem dX12_howMany_130 : decode cX12_howMany 130 = .ok (.getfield 170, 3) := by decide +kernel
theorem dX12_howMany_133 : decode cX12_howMany 133 = .ok (.ireturn, 1) := by decide +kernel
theorem dX12_howMany_134 : decode cX12_howMany 134 = .ok (.aload_n 0, 1) := by decide +kernel
theorem dX12_howMany_135 : decode cX12_howMany 135 = .ok (.getfield 208, 3) := by decide +kernel
theorem dX12_howMany_138 : decode cX12_howMany 138 = .ok (.ireturn, 1) := by decide +kernel
theorem dX12_howMany_139 : decode cX12_howMany 139 = .ok (.aload_n 0, 1) := by decide +kernel
theorem dX12_howMany_140 : decode cX12_howMany 140 = .ok (.getfield 284, 3) := by decide +kernel
theorem dX12_howMany_143 : decode cX12_howMany 143 = .ok (.ireturn, 1) := by decide +kernel
theorem dX12_howMany_144 : decode cX12_howMany 144 = .ok (.iload_n 2, 1) := by decide +kernel
theorem dX12_howMany_145 : decode cX12_howMany 145 = .ok (.ireturn, 1) := by decide +kernel
theorem dX12_howMany_146 : decode cX12_howMany 146 = .ok (.iload_n 3, 1) := by decide +kernel
theorem dX12_howMany_147 : decode cX12_howMany 147 = .ok (.ireturn, 1) := by decide +kernel
theorem dX12_howMany_148 : decode cX12_howMany 148 = .ok (.bipush (-102), 2) := by decide +kernel
theorem dX12_howMany_150 : decode cX12_howMany 150 = .ok (.ireturn, 1) := by decide +kernel
theorem cd_211 (G : ZG) (d : Nat) (K : ZKt) (F : ZFt) (hT : zt5 G.2.2.2) : CS G RX12 cX12_howMany 5 d K (some .int) [] (fun _ => []) 0 (bd_211 G.2.2.2 K F) := by
  unfold bd_211
  exact (CS.seq 2 (CS.decI_n (CX.pure (CE.iconst kI_0 dX12_howMany_0 zhd)) rfl (by decide) dX12_howMany_1 zhd)
  (CS.seq 4 (CS.decI_n (CX.pure (CE.iconst kI_0 dX12_howMany_2 zhd)) rfl (by decide) dX12_howMany_3 zhd)
  (CS.seq 50 (CS.scope (CS.seq 7 (CS.decI (CX.pure (CE.iconst kI_0 dX12_howMany_4 zhd)) (by decide) dX12_howMany_5 zhd)
  (CS.whl (T := 16) (F := 50) (p1 := 47) (CD.pure (CC.icmp_lt_F (T := 16) (F := 50) (CE.iload dX12_howMany_7 zhd) (CE.getI (CE.aload_n rfl dX12_howMany_9 zhd) fs_X12_146 dX12_howMany_10 zhd) dX12_howMany_13 rfl rfl))
  (CS.seq 44 (CS.seq 34 (CS.setI_n (CX.pure (CE.iadd (CE.iload_n rfl dX12_howMany_16 zhd) (CE.tern (T := 27) (F := 31) (p1 := 28) (q := 32) (CC.icmp_eq_F (T := 27) (F := 31) (CE.callV (by decide) (CA.ref (CE.aload_n rfl dX12_howMany_17 zhd) (CA.int (CE.iload dX12_howMany_18 zhd) CA.nil)) zi_175 cv_X12_248 (fun _ => rfl) dX12_howMany_20 zhd) (CE.iconst kI_m1 dX12_howMany_23 zhd) dX12_howMany_24 rfl rfl) (CE.iconst kI_1 dX12_howMany_27 zhd) zex2 dX12_howMany_28 rfl zhd (CE.iconst kI_0 dX12_howMany_31 zhd)) dX12_howMany_32 zhd)) rfl (by decide) dX12_howMany_33 zhd)
  (CS.setI_n (CX.pure (CE.iadd (CE.iload_n rfl dX12_howMany_34 zhd) (CE.aldI (CE.getR (CE.aload_n rfl dX12_howMany_35 zhd) fs_X12_53 dX12_howMany_36 zhd) (CE.iload dX12_howMany_39 zhd) (Or.inl ⟨rfl, dX12_howMany_41⟩) zhd) dX12_howMany_42 zhd)) rfl (by decide) dX12_howMany_43 zhd))
  (CS.inc kI_1 (by decide) dX12_howMany_44 zhd)) dX12_howMany_47 rfl zhd)))
  (CS.sw (qd := 148) (CX.pure (CE.iload_n rfl dX12_howMany_50 zhd)) dX12_howMany_51 rfl ⟨by decide, ⟨_, 104, rfl, rfl, (CS.retI (CX.pure (CE.getI (CE.aload_n rfl dX12_howMany_104 zhd) fs_X12_186 dX12_howMany_105 zhd)) dX12_howMany_108)⟩, ⟨by decide, ⟨_, 109, rfl, rfl, (CS.retI (CX.pure (CE.getI (CE.aload_n rfl dX12_howMany_109 zhd) fs_X12_146 dX12_howMany_110 zhd)) dX12_howMany_113)⟩, ⟨by decide, ⟨_, 114, rfl, rfl, (CS.retI (CX.pure (CE.getI (CE.aload_n rfl dX12_howMany_114 zhd) fs_X12_278 dX12_howMany_115 zhd)) dX12_howMany_118)⟩, ⟨by decide, ⟨_, 119, rfl, rfl, (CS.retI (CX.pure (CE.getI (CE.aload_n rfl dX12_howMany_119 zhd) fs_X12_293 dX12_howMany_120 zhd)) dX12_howMany_123)⟩, ⟨by decide, ⟨_, 124, rfl, rfl, (CS.retI (CX.pure (CE.getI (CE.aload_n rfl dX12_howMany_124 zhd) fs_X12_304 dX12_howMany_125 zhd)) dX12_howMany_128)⟩, ⟨by decide, ⟨_, 129, rfl, rfl, (CS.retI (CX.pure (CE.getI (CE.aload_n rfl dX12_howMany_129 zhd) fs_X12_170 dX12_howMany_130 zhd)) dX12_howMany_133)⟩, ⟨by decide, ⟨_, 134, rfl, rfl, (CS.retI (CX.pure (CE.getI (CE.aload_n rfl dX12_howMany_134 zhd) fs_X12_208 dX12_howMany_135 zhd)) dX12_howMany_138)⟩, ⟨by decide, ⟨_, 139, rfl, rfl, (CS.retI (CX.pure (CE.getI (CE.aload_n rfl dX12_howMany_139 zhd) fs_X12_284 dX12_howMany_140 zhd)) dX12_howMany_143)⟩, ⟨by decide, ⟨_, 144, rfl, rfl, (CS.retI (CX.pure (CE.iload_n rfl dX12_howMany_144 zhd)) dX12_howMany_145)⟩, ⟨by decide, ⟨_, 146, rfl, rfl, (CS.retI (CX.pure (CE.iload_n rfl dX12_howMany_146 zhd)) dX12_howMany_147)⟩, trivial⟩⟩⟩⟩⟩⟩⟩⟩⟩⟩ rfl (CS.retI (CX.pure (CE.bipush kB_m102 dX12_howMany_148 zhd)) dX12_howMany_150)))))
theorem dX12_count_0 : decode cX12_count 0 = .ok (.aload_n 0, 1) := by decide +kernel
theorem dX12_count_1 : decode cX12_count 1 = .ok (.iload_n 1, 1) := by decide +kernel
theorem dX12_count_2 : decode cX12_count 2 = .ok (.invokevirtual 310, 3) := by decide +kernel
theorem dX12_count_5 : decode cX12_count 5 = .ok (.ireturn, 1) := by decide +kernel
theorem cd_212 (G : ZG) (d : Nat) (K : ZKt) (F : ZFt) (hT : zt5 G.2.2.2) : CS G RX12 cX12_count 2 d K (some .int) [] (fun _ => []) 0 (bd_212 G.2.2.2 K F) := by
  unfold bd_212
  exact (CS.retI (CX.pure (CE.callV (by decide) (CA.ref (CE.aload_n rfl dX12_count_0 zhd) (CA.int (CE.iload_n rfl dX12_count_1 zhd) CA.nil)) zi_211 cv_X12_310 (fun _ => rfl) dX12_count_2 zhd)) dX12_count_5)
theorem dX12_mix_0 : decode cX12_mix 0 = .ok (.aload_n 0, 1) := by decide +kernel
theorem dX12_mix_1 : decode cX12_mix 1 = .ok (.ldc2_w 313, 3) := by decide +kernel
theorem dX12_mix_4 : decode cX12_mix 4 = .ok (.aload_n 0, 1) := by decide +kernel
theorem dX12_mix_5 : decode cX12_mix 5 = .ok (.getfield 315, 3) := by decide +kernel
theorem dX12_mix_8 : decode cX12_mix 8 = .ok (.lmul, 1) := by decide +kernel
theorem dX12_mix_9 : decode cX12_mix 9 = .ok (.lload_n 1, 1) := by decide +kernel
theorem dX12_mix_10 : decode cX12_mix 10 = .ok (.ladd, 1) := by decide +kernel
theorem dX12_mix_11 : decode cX12_mix 11 = .ok (.putfield 315, 3) := by decide +kernel
theorem dX12_mix_14 : decode cX12_mix 14 = .ok (.return_, 1) := by decide +kernel
theorem cd_213 (G : ZG) (d : Nat) (K : ZKt) (F : ZFt) (hT : zt5 G.2.2.2) : CS G RX12 cX12_mix 3 d K (none) [] (fun _ => []) 0 (bd_213 G.2.2.2 K F) := by
  unfold bd_213
  exact (CS.seq 14 (CS.putL (CE.aload_n rfl dX12_mix_0 zhd) (CX.pure (CE.ladd (CE.lmul (CE.ldc2 lc_X12_313 dX12_mix_1 zhd) (CE.getL (CE.aload_n rfl dX12_mix_4 zhd) fs_X12_315 dX12_mix_5 zhd) dX12_mix_8 zhd) (CE.lload_n rfl dX12_mix_9 zhd) dX12_mix_10 zhd)) fp_X12_315 dX12_mix_11 zhd)
  (CS.retV dX12_mix_14))
theorem dX12_mixDrawing_0 : decode cX12_mixDrawing 0 = .ok (.iconst 0, 1) := by decide +kernel
theorem dX12_mixDrawing_1 : decode cX12_mixDrawing 1 = .ok (.istore_n 1, 1) := by decide +kernel
theorem dX12_mixDrawing_2 : decode cX12_mixDrawing 2 = .ok (.iload_n 1, 1) := by decide +kernel
theorem dX12_mixDrawing_3 : decode cX12_mixDrawing 3 = .ok (.bipush 8, 2) := by decide +kernel
theorem dX12_mixDrawing_5 : decode cX12_mixDrawing 5 = .ok (.if_icmp .ge 82, 3) := by decide +kernel
theorem dX12_mixDrawing_8 : decode cX12_mixDrawing 8 = .ok (.aload_n 0, 1) := by decide +kernel
theorem dX12_mixDrawing_9 : decode cX12_mixDrawing 9 = .ok (.aload_n 0, 1) := by decide +kernel
theorem dX12_mixDrawing_10 : decode cX12_mixDrawing 10 = .ok (.getfield 7, 3) := by decide +kernel
theorem dX12_mixDrawing_13 : decode cX12_mixDrawing 13 = .ok (.iload_n 1, 1) := by decide +kernel
theorem dX12_mixDrawing_14 : decode cX12_mixDrawing 14 = .ok (.iaload, 1) := by decide +kernel
theorem dX12_mixDrawing_15 : decode cX12_mixDrawing 15 = .ok (.i2l, 1) := by decide +kernel
theorem dX12_mixDrawing_16 : decode cX12_mixDrawing 16 = .ok (.invokevirtual 319, 3) := by decide +kernel
theorem dX12_mixDrawing_19 : decode cX12_mixDrawing 19 = .ok (.aload_n 0, 1) := by decide +kernel
theorem dX12_mixDrawing_20 : decode cX12_mixDrawing 20 = .ok (.aload_n 0, 1) := by decide +kernel
theorem dX12_mixDrawing_21 : decode cX12_mixDrawing 21 = .ok (.getfield 13, 3) := by decide +kernel
theorem dX12_mixDrawing_24 : decode cX12_mixDrawing 24 = .ok (.iload_n 1, 1) := by decide +kernel
theorem dX12_mixDrawing_25 : decode cX12_mixDrawing 25 = .ok (.iaload, 1) := by decide +kernel
theorem dX12_mixDrawing_26 : decode cX12_mixDrawing 26 = .ok (.i2l, 1) := by decide +kernel
theorem dX12_mixDrawing_27 : decode cX12_mixDrawing 27 = .ok (.invokevirtual 319, 3) := by decide +kernel
theorem dX12_mixDrawing_30 : decode cX12_mixDrawing 30 = .ok (.aload_n 0, 1) := by decide +kernel
theorem dX12_mixDrawing_31 : decode cX12_mixDrawing 31 = .ok (.aload_n 0, 1) := by decide +kernel
theorem dX12_mixDrawing_32 : decode cX12_mixDrawing 32 = .ok (.getfield 16, 3) := by decide +kernel
theorem dX12_mixDrawing_35 : decode cX12_mixDrawing 35 = .ok (.iload_n 1, 1) := by decide +kernel
theorem dX12_mixDrawing_36 : decode cX12_mixDrawing 36 = .ok (.iaload, 1) := by decide +kernel
theorem dX12_mixDrawing_37 : decode cX12_mixDrawing 37 = .ok (.i2l, 1) := by decide +kernel
theorem dX12_mixDrawing_38 : decode cX12_mixDrawing 38 = .ok (.invokevirtual 319, 3) := by decide +kernel
theorem dX12_mixDrawing_41 : decode cX12_mixDrawing 41 = .ok (.aload_n 0, 1) := by decide +kernel
theorem dX12_mixDrawing_42 : decode cX12_mixDrawing 42 = .ok (.aload_n 0, 1) := by decide +kernel
theorem dX12_mixDrawing_43 : decode cX12_mixDrawing 43 = .ok (.iload_n 1, 1) := by decide +kernel
theorem dX12_mixDrawing_44 : decode cX12_mixDrawing 44 = .ok (.invokevirtual 157, 3) := by decide +kernel
theorem dX12_mixDrawing_47 : decode cX12_mixDrawing 47 = .ok (.i2l, 1) := by decide +kernel
theorem dX12_mixDrawing_48 : decode cX12_mixDrawing 48 = .ok (.invokevirtual 319, 3) := by decide +kernel
theorem dX12_mixDrawing_51 : decode cX12_mixDrawing 51 = .ok (.iconst 0, 1) := by decide +kernel
theorem dX12_mixDrawing_52 : decode cX12_mixDrawing 52 = .ok (.istore_n 2, 1) := by decide +kernel
theorem dX12_mixDrawing_53 : decode cX12_mixDrawing 53 = .ok (.iload_n 2, 1) := by decide +kernel
theorem dX12_mixDrawing_54 : decode cX12_mixDrawing 54 = .ok (.bipush 9, 2) := by decide +kernel
theorem dX12_mixDrawing_56 : decode cX12_mixDrawing 56 = .ok (.if_icmp .ge 25, 3) := by decide +kernel
theorem dX12_mixDrawing_59 : decode cX12_mixDrawing 59 = .ok (.aload_n 0, 1) := by decide +kernel
theorem dX12_mixDrawing_60 : decode cX12_mixDrawing 60 = .ok (.aload_n 0, 1) := by decide +kernel
theorem dX12_mixDrawing_61 : decode cX12_mixDrawing 61 = .ok (.getfield 25, 3) := by decide +kernel
theorem dX12_mixDrawing_64 : decode cX12_mixDrawing 64 = .ok (.bipush 9, 2) := by decide +kernel
theorem dX12_mixDrawing_66 : decode cX12_mixDrawing 66 = .ok (.iload_n 1, 1) := by decide +kernel
theorem dX12_mixDrawing_67 : decode cX12_mixDrawing 67 = .ok (.imul, 1) := by decide +kernel
theorem dX12_mixDrawing_68 : decode cX12_mixDrawing 68 = .ok (.iload_n 2, 1) := by decide +kernel
theorem dX12_mixDrawing_69 : decode cX12_mixDrawing 69 = .ok (.iadd, 1) := by decide +kernel
theorem dX12_mixDrawing_70 : decode cX12_mixDrawing 70 = .ok (.iaload, 1) := by decide +kernel
theorem dX12_mixDrawing_71 : decode cX12_mixDrawing 71 = .ok (.i2l, 1) := by decide +kernel
theorem dX12_mixDrawing_72 : decode cX12_mixDrawing 72 = .ok (.invokevirtual 319, 3) := by decide +kernel
theorem dX12_mixDrawing_75 : decode cX12_mixDrawing 75 = .ok (.iinc 2 1, 3) := by decide +kernel
theorem dX12_mixDrawing_78 : decode cX12_mixDrawing 78 = .ok (.goto (-25), 3) := by decide +kernel
theorem dX12_mixDrawing_81 : decode cX12_mixDrawing 81 = .ok (.iinc 1 1, 3) := by decide +kernel
theorem dX12_mixDrawing_84 : decode cX12_mixDrawing 84 = .ok (.goto (-82), 3) := by decide +kernel
theorem dX12_mixDrawing_87 : decode cX12_mixDrawing 87 = .ok (.iconst 0, 1) := by decide +kernel
theorem dX12_mixDrawing_88 : decode cX12_mixDrawing 88 = .ok (.istore_n 1, 1) := by decide +kernel
theorem dX12_mixDrawing_89 : decode cX12_mixDrawing 89 = .ok (.iload_n 1, 1) := by decide +kernel
theorem dX12_mixDrawing_90 : decode cX12_mixDrawing 90 = .ok (.iconst 4, 1) := by decide +kernel
theorem dX12_mixDrawing_91 : decode cX12_mixDrawing 91 = .ok (.if_icmp .ge 31, 3) := by decide +kernel
theorem dX12_mixDrawing_94 : decode cX12_mixDrawing 94 = .ok (.aload_n 0, 1) := by decide +kernel
theorem dX12_mixDrawing_95 : decode cX12_mixDrawing 95 = .ok (.aload_n 0, 1) := by decide +kernel
theorem dX12_mixDrawing_96 : decode cX12_mixDrawing 96 = .ok (.getfield 19, 3) := by decide +kernel
theorem dX12_mixDrawing_99 : decode cX12_mixDrawing 99 = .ok (.iload_n 1, 1) := by decide +kernel
theorem dX12_mixDrawing_100 : decode cX12_mixDrawing 100 = .ok (.iaload, 1) := by decide +kernel
theorem dX12_mixDrawing_101 : decode cX12_mixDrawing 101 = .ok (.i2l, 1) := by decide +kernel
theorem dX12_mixDrawing_102 : decode cX12_mixDrawing 102 = .ok (.invokevirtual 319, 3) := by decide +kernel
theorem dX12_mixDrawing_105 : decode cX12_mixDrawing 105 = .ok (.aload_n 0, 1) := by decide +kernel
theorem dX12_mixDrawing_106 : decode cX12_mixDrawing 106 = .ok (.aload_n 0, 1) := by decide +kernel
theorem dX12_mixDrawing_107 : decode cX12_mixDrawing 107 = .ok (.getfield 22, 3) := by decide +kernel
theorem dX12_mixDrawing_110 : decode cX12_mixDrawing 110 = .ok (.iload_n 1, 1) := by decide +kernel
theorem dX12_mixDrawing_111 : decode cX12_mixDrawing 111 = .ok (.iaload, 1) := by decide +kernel
theorem dX12_mixDrawing_112 : decode cX12_mixDrawing 112 = .ok (.i2l, 1) := by decide +kernel
theorem dX12_mixDrawing_113 : decode cX12_mixDrawing 113 = .ok (.invokevirtual 319, 3) := by decide +kernel
theorem dX12_mixDrawing_116 : decode cX12_mixDrawing 116 = .ok (.iinc 1 1, 3) := by decide +kernel
theorem dX12_mixDrawing_119 : decode cX12_mixDrawing 119 = .ok (.goto (-30), 3) := by decide +kernel
theorem dX12_mixDrawing_122 : decode cX12_mixDrawing 122 = .ok (.iconst 0, 1) := by decide +kernel
theorem dX12_mixDrawing_123 : decode cX12_mixDrawing 123 = .ok (.istore_n 1, 1) := by decide +kernel
theorem dX12_mixDrawing_124 : decode cX12_mixDrawing 124 = .ok (.iload_n 1, 1) := by decide +kernel
theorem dX12_mixDrawing_125 : decode cX12_mixDrawing 125 = .ok (.aload_n 0, 1) := by decide +kernel
theorem dX12_mixDrawing_126 : decode cX12_mixDrawing 126 = .ok (.getfield 186, 3) := by decide +kernel
theorem dX12_mixDrawing_129 : decode cX12_mixDrawing 129 = .ok (.if_icmp .ge 34, 3) := by decide +kernel
theorem dX12_mixDrawing_132 : decode cX12_mixDrawing 132 = .ok (.iconst 0, 1) := by decide +kernel
theorem dX12_mixDrawing_133 : decode cX12_mixDrawing 133 = .ok (.istore_n 2, 1) := by decide +kernel
theorem dX12_mixDrawing_134 : decode cX12_mixDrawing 134 = .ok (.iload_n 2, 1) := by decide +kernel
theorem dX12_mixDrawing_135 : decode cX12_mixDrawing 135 = .ok (.bipush 7, 2) := by decide +kernel
theorem dX12_mixDrawing_137 : decode cX12_mixDrawing 137 = .ok (.if_icmp .ge 20, 3) := by decide +kernel
theorem dX12_mixDrawing_140 : decode cX12_mixDrawing 140 = .ok (.aload_n 0, 1) := by decide +kernel
theorem dX12_mixDrawing_141 : decode cX12_mixDrawing 141 = .ok (.aload_n 0, 1) := by decide +kernel
theorem dX12_mixDrawing_142 : decode cX12_mixDrawing 142 = .ok (.iload_n 1, 1) := by decide +kernel
theorem dX12_mixDrawing_143 : decode cX12_mixDrawing 143 = .ok (.iload_n 2, 1) := by decide +kernel
theorem dX12_mixDrawing_144 : decode cX12_mixDrawing 144 = .ok (.invokevirtual 202, 3) := by decide +kernel
theorem dX12_mixDrawing_147 : decode cX12_mixDrawing 147 = .ok (.i2l, 1) := by decide +kernel
theorem dX12_mixDrawing_148 : decode cX12_mixDrawing 148 = .ok (.invokevirtual 319, 3) := by decide +kernel
theorem dX12_mixDrawing_151 : decode cX12_mixDrawing 151 = .ok (.iinc 2 1, 3) := by decide +kernel
theorem dX12_mixDrawing_154 : decode cX12_mixDrawing 154 = .ok (.goto (-20), 3) := by decide +kernel
theorem dX12_mixDrawing_157 : decode cX12_mixDrawing 157 = .ok (.iinc 1 1, 3) := by decide +kernel
theorem dX12_mixDrawing_160 : decode cX12_mixDrawing 160 = .ok (.goto (-36), 3) := by decide +kernel
theorem dX12_mixDrawing_163 : decode cX12_mixDrawing 163 = .ok (.iconst 0, 1) := by decide +kernel
theorem dX12_mixDrawing_164 : decode cX12_mixDrawing 164 = .ok (.istore_n 1, 1) := by decide +kernel
theorem dX12_mixDrawing_165 : decode cX12_mixDrawing 165 = .ok (.iload_n 1, 1) := by decide +kernel
theorem dX12_mixDrawing_166 : decode cX12_mixDrawing 166 = .ok (.aload_n 0, 1) := by decide +kernel
theorem dX12_mixDrawing_167 : decode cX12_mixDrawing 167 = .ok (.getfield 146, 3) := by decide +kernel
theorem dX12_mixDrawing_170 : decode cX12_mixDrawing 170 = .ok (.if_icmp .ge 53, 3) := by decide +kernel
theorem dX12_mixDrawing_173 : decode cX12_mixDrawing 173 = .ok (.aload_n 0, 1) := by decide +kernel
theorem dX12_mixDrawing_174 : decode cX12_mixDrawing 174 = .ok (.aload_n 0, 1) := by decide +kernel
theorem dX12_mixDrawing_175 : decode cX12_mixDrawing 175 = .ok (.getfield 47, 3) := by decide +kernel
theorem dX12_mixDrawing_178 : decode cX12_mixDrawing 178 = .ok (.iload_n 1, 1) := by decide +kernel
theorem dX12_mixDrawing_179 : decode cX12_mixDrawing 179 = .ok (.iaload, 1) := by decide +kernel
theorem dX12_mixDrawing_180 : decode cX12_mixDrawing 180 = .ok (.i2l, 1) := by decide +kernel
theorem dX12_mixDrawing_181 : decode cX12_mixDrawing 181 = .ok (.invokevirtual 319, 3) := by decide +kernel
theorem dX12_mixDrawing_184 : decode cX12_mixDrawing 184 = .ok (.aload_n 0, 1) := by decide +kernel
theorem dX12_mixDrawing_185 : decode cX12_mixDrawing 185 = .ok (.aload_n 0, 1) := by decide +kernel
theorem dX12_mixDrawing_186 : decode cX12_mixDrawing 186 = .ok (.getfield 50, 3) := by decide +kernel
theorem dX12_mixDrawing_189 : decode cX12_mixDrawing 189 = .ok (.iload_n 1, 1) := by decide +kernel
theorem dX12_mixDrawing_190 : decode cX12_mixDrawing 190 = .ok (.iaload, 1) := by decide +kernel
theorem dX12_mixDrawing_191 : decode cX12_mixDrawing 191 = .ok (.i2l, 1) := by decide +kernel
theorem dX12_mixDrawing_192 : decode cX12_mixDrawing 192 = .ok (.invokevirtual 319, 3) := by decide +kernel
theorem dX12_mixDrawing_195 : decode cX12_mixDrawing 195 = .ok (.aload_n 0, 1) := by decide +kernel
theorem dX12_mixDrawing_196 : decode cX12_mixDrawing 196 = .ok (.aload_n 0, 1) := by decide +kernel
theorem dX12_mixDrawing_197 : decode cX12_mixDrawing 197 = .ok (.iload_n 1, 1) := by decide +kernel
theorem dX12_mixDrawing_198 : decode cX12_mixDrawing 198 = .ok (.iconst 0, 1) := by decide +kernel
theorem dX12_mixDrawing_199 : decode cX12_mixDrawing 199 = .ok (.invokevirtual 225, 3) := by decide +kernel
theorem dX12_mixDrawing_202 : decode cX12_mixDrawing 202 = .ok (.i2l, 1) := by decide +kernel
theorem dX12_mixDrawing_203 : decode cX12_mixDrawing 203 = .ok (.invokevirtual 319, 3) := by decide +kernel
theorem dX12_mixDrawing_206 : decode cX12_mixDrawing 206 = .ok (.aload_n 0, 1) := by decide +kernel
theorem dX12_mixDrawing_207 : decode cX12_mixDrawing 207 = .ok (.aload_n 0, 1) := by decide +kernel
theorem dX12_mixDrawing_208 : decode cX12_mixDrawing 208 = .ok (.iload_n 1, 1) := by decide +kernel
theorem dX12_mixDrawing_209 : decode cX12_mixDrawing 209 = .ok (.iconst 1, 1) := by decide +kernel
theorem dX12_mixDrawing_210 : decode cX12_mixDrawing 210 = .ok (.invokevirtual 225, 3) := by decide +kernel
theorem dX12_mixDrawing_213 : decode cX12_mixDrawing 213 = .ok (.i2l, 1) := by decide +kernel
theorem dX12_mixDrawing_214 : decode cX12_mixDrawing 214 = .ok (.invokevirtual 319, 3) := by decide +kernel
theorem dX12_mixDrawing_217 : decode cX12_mixDrawing 217 = .ok (.iinc 1 1, 3) := by decide +kernel
theorem dX12_mixDrawing_220 : decode cX12_mixDrawing 220 = .ok (.goto (-55), 3) := by decide +kernel
theorem dX12_mixDrawing_223 : decode cX12_mixDrawing 223 = .ok (.iconst 0, 1) := by decide +kernel
theorem dX12_mixDrawing_224 : decode cX12_mixDrawing 224 = .ok (.istore_n 1, 1) := by decide +kernel
theorem dX12_mixDrawing_225 : decode cX12_mixDrawing 225 = .ok (.iload_n 1, 1) := by decide +kernel
theorem dX12_mixDrawing_226 : decode cX12_mixDrawing 226 = .ok (.bipush 6, 2) := by decide +kernel
theorem dX12_mixDrawing_228 : decode cX12_mixDrawing 228 = .ok (.if_icmp .ge 50, 3) := by decide +kernel
theorem dX12_mixDrawing_231 : decode cX12_mixDrawing 231 = .ok (.iconst 0, 1) := by decide +kernel
theorem dX12_mixDrawing_232 : decode cX12_mixDrawing 232 = .ok (.istore_n 2, 1) := by decide +kernel
theorem dX12_mixDrawing_233 : decode cX12_mixDrawing 233 = .ok (.iload_n 2, 1) := by decide +kernel
theorem dX12_mixDrawing_234 : decode cX12_mixDrawing 234 = .ok (.bipush 8, 2) := by decide +kernel
theorem dX12_mixDrawing_236 : decode cX12_mixDrawing 236 = .ok (.if_icmp .ge 25, 3) := by decide +kernel
theorem dX12_mixDrawing_239 : decode cX12_mixDrawing 239 = .ok (.aload_n 0, 1) := by decide +kernel
theorem dX12_mixDrawing_240 : decode cX12_mixDrawing 240 = .ok (.aload_n 0, 1) := by decide +kernel
theorem dX12_mixDrawing_241 : decode cX12_mixDrawing 241 = .ok (.getfield 62, 3) := by decide +kernel
theorem dX12_mixDrawing_244 : decode cX12_mixDrawing 244 = .ok (.bipush 8, 2) := by decide +kernel
theorem dX12_mixDrawing_246 : decode cX12_mixDrawing 246 = .ok (.iload_n 1, 1) := by decide +kernel
theorem dX12_mixDrawing_247 : decode cX12_mixDrawing 247 = .ok (.imul, 1) := by decide +kernel
theorem dX12_mixDrawing_248 : decode cX12_mixDrawing 248 = .ok (.iload_n 2, 1) := by decide +kernel
theorem dX12_mixDrawing_249 : decode cX12_mixDrawing 249 = .ok (.iadd, 1) := by decide +kernel
theorem dX12_mixDrawing_250 : decode cX12_mixDrawing 250 = .ok (.iaload, 1) := by decide +kernel
theorem dX12_mixDrawing_251 : decode cX12_mixDrawing 251 = .ok (.i2l, 1) := by decide +kernel
theorem dX12_mixDrawing_252 : decode cX12_mixDrawing 252 = .ok (.invokevirtual 319, 3) := by decide +kernel
theorem dX12_mixDrawing_255 : decode cX12_mixDrawing 255 = .ok (.iinc 2 1, 3) := by decide +kernel
theorem dX12_mixDrawing_258 : decode cX12_mixDrawing 258 = .ok (.goto (-25), 3) := by decide +kernel
theorem dX12_mixDrawing_261 : decode cX12_mixDrawing 261 = .ok (.aload_n 0, 1) := by decide +kernel
theorem dX12_mixDrawing_262 : decode cX12_mixDrawing 262 = .ok (.aload_n 0, 1) := by decide +kernel
theorem dX12_mixDrawing_263 : decode cX12_mixDrawing 263 = .ok (.getfield 65, 3) := by decide +kernel
theorem dX12_mixDrawing_266 : decode cX12_mixDrawing 266 = .ok (.iload_n 1, 1) := by decide +kernel
theorem dX12_mixDrawing_267 : decode cX12_mixDrawing 267 = .ok (.iaload, 1) := by decide +kernel
theorem dX12_mixDrawing_268 : decode cX12_mixDrawing 268 = .ok (.i2l, 1) := by decide +kernel
theorem dX12_mixDrawing_269 : decode cX12_mixDrawing 269 = .ok (.invokevirtual 319, 3) := by decide +kernel
theorem dX12_mixDrawing_272 : decode cX12_mixDrawing 272 = .ok (.iinc 1 1, 3) := by decide +kernel
theorem dX12_mixDrawing_275 : decode cX12_mixDrawing 275 = .ok (.goto (-50), 3) := by decide +kernel
theorem dX12_mixDrawing_278 : decode cX12_mixDrawing 278 = .ok (.return_, 1) := by decide +kernel
theorem cd_214 (G : ZG) (d : Nat) (K : ZKt) (F : ZFt) (hT : zt5 G.2.2.2) : CS G RX12 cX12_mixDrawing 3 d K (none) [] (fun _ => []) 0 (bd_214 G.2.2.2 K F) := by
  unfold bd_214
  exact (CS.seq 278 (CS.seq 87 (CS.scope (CS.seq 2 (CS.decI_n (CX.pure (CE.iconst kI_0 dX12_mixDrawing_0 zhd)) rfl (by decide) dX12_mixDrawing_1 zhd)
  (CS.whl (T := 8) (F := 87) (p1 := 84) (CD.pure (CC.icmp_lt_F (T := 8) (F := 87) (CE.iload_n rfl dX12_mixDrawing_2 zhd) (CE.bipush kB_8 dX12_mixDrawing_3 zhd) dX12_mixDrawing_5 rfl rfl))
  (CS.seq 81 (CS.seq 19 (CS.callV (CA.ref (CE.aload_n rfl dX12_mixDrawing_8 zhd) (CA.long (CE.i2l (CE.aldI (CE.getR (CE.aload_n rfl dX12_mixDrawing_9 zhd) fs_X12_7 dX12_mixDrawing_10 zhd) (CE.iload_n rfl dX12_mixDrawing_13 zhd) (Or.inl ⟨rfl, dX12_mixDrawing_14⟩) zhd) dX12_mixDrawing_15 zhd) CA.nil)) zi_213 cv_X12_319 (fun _ => rfl) dX12_mixDrawing_16 zhd)
  (CS.seq 30 (CS.callV (CA.ref (CE.aload_n rfl dX12_mixDrawing_19 zhd) (CA.long (CE.i2l (CE.aldI (CE.getR (CE.aload_n rfl dX12_mixDrawing_20 zhd) fs_X12_13 dX12_mixDrawing_21 zhd) (CE.iload_n rfl dX12_mixDrawing_24 zhd) (Or.inl ⟨rfl, dX12_mixDrawing_25⟩) zhd) dX12_mixDrawing_26 zhd) CA.nil)) zi_213 cv_X12_319 (fun _ => rfl) dX12_mixDrawing_27 zhd)
  (CS.seq 41 (CS.callV (CA.ref (CE.aload_n rfl dX12_mixDrawing_30 zhd) (CA.long (CE.i2l (CE.aldI (CE.getR (CE.aload_n rfl dX12_mixDrawing_31 zhd) fs_X12_16 dX12_mixDrawing_32 zhd) (CE.iload_n rfl dX12_mixDrawing_35 zhd) (Or.inl ⟨rfl, dX12_mixDrawing_36⟩) zhd) dX12_mixDrawing_37 zhd) CA.nil)) zi_213 cv_X12_319 (fun _ => rfl) dX12_mixDrawing_38 zhd)
  (CS.seq 51 (CS.callV (CA.ref (CE.aload_n rfl dX12_mixDrawing_41 zhd) (CA.long (CE.i2l (CE.callV (by decide) (CA.ref (CE.aload_n rfl dX12_mixDrawing_42 zhd) (CA.int (CE.iload_n rfl dX12_mixDrawing_43 zhd) CA.nil)) zi_141 cv_X12_157 (fun _ => rfl) dX12_mixDrawing_44 zhd) dX12_mixDrawing_47 zhd) CA.nil)) zi_213 cv_X12_319 (fun _ => rfl) dX12_mixDrawing_48 zhd)
  (CS.scope (CS.seq 53 (CS.decI_n (CX.pure (CE.iconst kI_0 dX12_mixDrawing_51 zhd)) rfl (by decide) dX12_mixDrawing_52 zhd)
  (CS.whl (T := 59) (F := 81) (p1 := 78) (CD.pure (CC.icmp_lt_F (T := 59) (F := 81) (CE.iload_n rfl dX12_mixDrawing_53 zhd) (CE.bipush kB_9 dX12_mixDrawing_54 zhd) dX12_mixDrawing_56 rfl rfl))
  (CS.seq 75 (CS.callV (CA.ref (CE.aload_n rfl dX12_mixDrawing_59 zhd) (CA.long (CE.i2l (CE.aldI (CE.getR (CE.aload_n rfl dX12_mixDrawing_60 zhd) fs_X12_25 dX12_mixDrawing_61 zhd) (CE.iadd (CE.imul (CE.bipush kB_9 dX12_mixDrawing_64 zhd) (CE.iload_n rfl dX12_mixDrawing_66 zhd) dX12_mixDrawing_67 zhd) (CE.iload_n rfl dX12_mixDrawing_68 zhd) dX12_mixDrawing_69 zhd) (Or.inl ⟨rfl, dX12_mixDrawing_70⟩) zhd) dX12_mixDrawing_71 zhd) CA.nil)) zi_213 cv_X12_319 (fun _ => rfl) dX12_mixDrawing_72 zhd)
  (CS.inc kI_1 (by decide) dX12_mixDrawing_75 zhd)) dX12_mixDrawing_78 rfl zhd)))))))
  (CS.inc kI_1 (by decide) dX12_mixDrawing_81 zhd)) dX12_mixDrawing_84 rfl zhd)))
  (CS.seq 122 (CS.scope (CS.seq 89 (CS.decI_n (CX.pure (CE.iconst kI_0 dX12_mixDrawing_87 zhd)) rfl (by decide) dX12_mixDrawing_88 zhd)
  (CS.whl (T := 94) (F := 122) (p1 := 119) (CD.pure (CC.icmp_lt_F (T := 94) (F := 122) (CE.iload_n rfl dX12_mixDrawing_89 zhd) (CE.iconst kI_4 dX12_mixDrawing_90 zhd) dX12_mixDrawing_91 rfl rfl))
  (CS.seq 116 (CS.seq 105 (CS.callV (CA.ref (CE.aload_n rfl dX12_mixDrawing_94 zhd) (CA.long (CE.i2l (CE.aldI (CE.getR (CE.aload_n rfl dX12_mixDrawing_95 zhd) fs_X12_19 dX12_mixDrawing_96 zhd) (CE.iload_n rfl dX12_mixDrawing_99 zhd) (Or.inl ⟨rfl, dX12_mixDrawing_100⟩) zhd) dX12_mixDrawing_101 zhd) CA.nil)) zi_213 cv_X12_319 (fun _ => rfl) dX12_mixDrawing_102 zhd)
  (CS.callV (CA.ref (CE.aload_n rfl dX12_mixDrawing_105 zhd) (CA.long (CE.i2l (CE.aldI (CE.getR (CE.aload_n rfl dX12_mixDrawing_106 zhd) fs_X12_22 dX12_mixDrawing_107 zhd) (CE.iload_n rfl dX12_mixDrawing_110 zhd) (Or.inl ⟨rfl, dX12_mixDrawing_111⟩) zhd) dX12_mixDrawing_112 zhd) CA.nil)) zi_213 cv_X12_319 (fun _ => rfl) dX12_mixDrawing_113 zhd))
  (CS.inc kI_1 (by decide) dX12_mixDrawing_116 zhd)) dX12_mixDrawing_119 rfl zhd)))
  (CS.seq 163 (CS.scope (CS.seq 124 (CS.decI_n (CX.pure (CE.iconst kI_0 dX12_mixDrawing_122 zhd)) rfl (by decide) dX12_mixDrawing_123 zhd)
  (CS.whl (T := 132) (F := 163) (p1 := 160) (CD.pure (CC.icmp_lt_F (T := 132) (F := 163) (CE.iload_n rfl dX12_mixDrawing_124 zhd) (CE.getI (CE.aload_n rfl dX12_mixDrawing_125 zhd) fs_X12_186 dX12_mixDrawing_126 zhd) dX12_mixDrawing_129 rfl rfl))
  (CS.seq 157 (CS.scope (CS.seq 134 (CS.decI_n (CX.pure (CE.iconst kI_0 dX12_mixDrawing_132 zhd)) rfl (by decide) dX12_mixDrawing_133 zhd)
  (CS.whl (T := 140) (F := 157) (p1 := 154) (CD.pure (CC.icmp_lt_F (T := 140) (F := 157) (CE.iload_n rfl dX12_mixDrawing_134 zhd) (CE.bipush kB_7 dX12_mixDrawing_135 zhd) dX12_mixDrawing_137 rfl rfl))
  (CS.seq 151 (CS.callV (CA.ref (CE.aload_n rfl dX12_mixDrawing_140 zhd) (CA.long (CE.i2l (CE.callV (by decide) (CA.ref (CE.aload_n rfl dX12_mixDrawing_141 zhd) (CA.int (CE.iload_n rfl dX12_mixDrawing_142 zhd) (CA.int (CE.iload_n rfl dX12_mixDrawing_143 zhd) CA.nil))) zi_157 cv_X12_202 (fun _ => rfl) dX12_mixDrawing_144 zhd) dX12_mixDrawing_147 zhd) CA.nil)) zi_213 cv_X12_319 (fun _ => rfl) dX12_mixDrawing_148 zhd)
  (CS.inc kI_1 (by decide) dX12_mixDrawing_151 zhd)) dX12_mixDrawing_154 rfl zhd)))
  (CS.inc kI_1 (by decide) dX12_mixDrawing_157 zhd)) dX12_mixDrawing_160 rfl zhd)))
  (CS.seq 223 (CS.scope (CS.seq 165 (CS.decI_n (CX.pure (CE.iconst kI_0 dX12_mixDrawing_163 zhd)) rfl (by decide) dX12_mixDrawing_164 zhd)
  (CS.whl (T := 173) (F := 223) (p1 := 220) (CD.pure (CC.icmp_lt_F (T := 173) (F := 223) (CE.iload_n rfl dX12_mixDrawing_165 zhd) (CE.getI (CE.aload_n rfl dX12_mixDrawing_166 zhd) fs_X12_146 dX12_mixDrawing_167 zhd) dX12_mixDrawing_170 rfl rfl))
  (CS.seq 217 (CS.seq 184 (CS.callV (CA.ref (CE.aload_n rfl dX12_mixDrawing_173 zhd) (CA.long (CE.i2l (CE.aldI (CE.getR (CE.aload_n rfl dX12_mixDrawing_174 zhd) fs_X12_47 dX12_mixDrawing_175 zhd) (CE.iload_n rfl dX12_mixDrawing_178 zhd) (Or.inl ⟨rfl, dX12_mixDrawing_179⟩) zhd) dX12_mixDrawing_180 zhd) CA.nil)) zi_213 cv_X12_319 (fun _ => rfl) dX12_mixDrawing_181 zhd)
  (CS.seq 195 (CS.callV (CA.ref (CE.aload_n rfl dX12_mixDrawing_184 zhd) (CA.long (CE.i2l (CE.aldI (CE.getR (CE.aload_n rfl dX12_mixDrawing_185 zhd) fs_X12_50 dX12_mixDrawing_186 zhd) (CE.iload_n rfl dX12_mixDrawing_189 zhd) (Or.inl ⟨rfl, dX12_mixDrawing_190⟩) zhd) dX12_mixDrawing_191 zhd) CA.nil)) zi_213 cv_X12_319 (fun _ => rfl) dX12_mixDrawing_192 zhd)
  (CS.seq 206 (CS.callV (CA.ref (CE.aload_n rfl dX12_mixDrawing_195 zhd) (CA.long (CE.i2l (CE.callV (by decide) (CA.ref (CE.aload_n rfl dX12_mixDrawing_196 zhd) (CA.int (CE.iload_n rfl dX12_mixDrawing_197 zhd) (CA.int (CE.iconst kI_0 dX12_mixDrawing_198 zhd) CA.nil))) zi_166 cv_X12_225 (fun _ => rfl) dX12_mixDrawing_199 zhd) dX12_mixDrawing_202 zhd) CA.nil)) zi_213 cv_X12_319 (fun _ => rfl) dX12_mixDrawing_203 zhd)
  (CS.callV (CA.ref (CE.aload_n rfl dX12_mixDrawing_206 zhd) (CA.long (CE.i2l (CE.callV (by decide) (CA.ref (CE.aload_n rfl dX12_mixDrawing_207 zhd) (CA.int (CE.iload_n rfl dX12_mixDrawing_208 zhd) (CA.int (CE.iconst kI_1 dX12_mixDrawing_209 zhd) CA.nil))) zi_166 cv_X12_225 (fun _ => rfl) dX12_mixDrawing_210 zhd) dX12_mixDrawing_213 zhd) CA.nil)) zi_213 cv_X12_319 (fun _ => rfl) dX12_mixDrawing_214 zhd))))
  (CS.inc kI_1 (by decide) dX12_mixDrawing_217 zhd)) dX12_mixDrawing_220 rfl zhd)))
  (CS.scope (CS.seq 225 (CS.decI_n (CX.pure (CE.iconst kI_0 dX12_mixDrawing_223 zhd)) rfl (by decide) dX12_mixDrawing_224 zhd)
  (CS.whl (T := 231) (F := 278) (p1 := 275) (CD.pure (CC.icmp_lt_F (T := 231) (F := 278) (CE.iload_n rfl dX12_mixDrawing_225 zhd) (CE.bipush kB_6 dX12_mixDrawing_226 zhd) dX12_mixDrawing_228 rfl rfl))
  (CS.seq 272 (CS.seq 261 (CS.scope (CS.seq 233 (CS.decI_n (CX.pure (CE.iconst kI_0 dX12_mixDrawing_231 zhd)) rfl (by decide) dX12_mixDrawing_232 zhd)
  (CS.whl (T := 239) (F := 261) (p1 := 258) (CD.pure (CC.icmp_lt_F (T := 239) (F := 261) (CE.iload_n rfl dX12_mixDrawing_233 zhd) (CE.bipush kB_8 dX12_mixDrawing_234 zhd) dX12_mixDrawing_236 rfl rfl))
  (CS.seq 255 (CS.callV (CA.ref (CE.aload_n rfl dX12_mixDrawing_239 zhd) (CA.long (CE.i2l (CE.aldI (CE.getR (CE.aload_n rfl dX12_mixDrawing_240 zhd) fs_X12_62 dX12_mixDrawing_241 zhd) (CE.iadd (CE.imul (CE.bipush kB_8 dX12_mixDrawing_244 zhd) (CE.iload_n rfl dX12_mixDrawing_246 zhd) dX12_mixDrawing_247 zhd) (CE.iload_n rfl dX12_mixDrawing_248 zhd) dX12_mixDrawing_249 zhd) (Or.inl ⟨rfl, dX12_mixDrawing_250⟩) zhd) dX12_mixDrawing_251 zhd) CA.nil)) zi_213 cv_X12_319 (fun _ => rfl) dX12_mixDrawing_252 zhd)
  (CS.inc kI_1 (by decide) dX12_mixDrawing_255 zhd)) dX12_mixDrawing_258 rfl zhd)))
  (CS.callV (CA.ref (CE.aload_n rfl dX12_mixDrawing_261 zhd) (CA.long (CE.i2l (CE.aldI (CE.getR (CE.aload_n rfl dX12_mixDrawing_262 zhd) fs_X12_65 dX12_mixDrawing_263 zhd) (CE.iload_n rfl dX12_mixDrawing_266 zhd) (Or.inl ⟨rfl, dX12_mixDrawing_267⟩) zhd) dX12_mixDrawing_268 zhd) CA.nil)) zi_213 cv_X12_319 (fun _ => rfl) dX12_mixDrawing_269 zhd))
  (CS.inc kI_1 (by decide) dX12_mixDrawing_272 zhd)) dX12_mixDrawing_275 rfl zhd)))))))
  (CS.retV dX12_mixDrawing_278))
theorem dX12_digest_0 : decode cX12_digest 0 = .ok (.aload_n 0, 1) := by decide +kernel
theorem dX12_digest_1 : decode cX12_digest 1 = .ok (.ldc2_w 323, 3) := by decide +kernel
theorem dX12_digest_4 : decode cX12_digest 4 = .ok (.putfield 315, 3) := by decide +kernel
theorem dX12_digest_7 : decode cX12_digest 7 = .ok (.aload_n 0, 1) := by decide +kernel
theorem dX12_digest_8 : decode cX12_digest 8 = .ok (.invokevirtual 325, 3) := by decide +kernel
theorem dX12_digest_11 : decode cX12_digest 11 = .ok (.iconst 0, 1) := by decide +kernel
theorem dX12_digest_12 : decode cX12_digest 12 = .ok (.istore_n 1, 1) := by decide +kernel
theorem dX12_digest_13 : decode cX12_digest 13 = .ok (.iload_n 1, 1) := by decide +kernel
theorem dX12_digest_14 : decode cX12_digest 14 = .ok (.iconst 4, 1) := by decide +kernel
theorem dX12_digest_15 : decode cX12_digest 15 = .ok (.if_icmp .ge 100, 3) := by decide +kernel
theorem dX12_digest_18 : decode cX12_digest 18 = .ok (.aload_n 0, 1) := by decide +kernel
theorem dX12_digest_19 : decode cX12_digest 19 = .ok (.aload_n 0, 1) := by decide +kernel
theorem dX12_digest_20 : decode cX12_digest 20 = .ok (.getfield 68, 3) := by decide +kernel
theorem dX12_digest_23 : decode cX12_digest 23 = .ok (.iload_n 1, 1) := by decide +kernel
theorem dX12_digest_24 : decode cX12_digest 24 = .ok (.iaload, 1) := by decide +kernel
theorem dX12_digest_25 : decode cX12_digest 25 = .ok (.i2l, 1) := by decide +kernel
theorem dX12_digest_26 : decode cX12_digest 26 = .ok (.invokevirtual 319, 3) := by decide +kernel
theorem dX12_digest_29 : decode cX12_digest 29 = .ok (.iconst 0, 1) := by decide +kernel
theorem dX12_digest_30 : decode cX12_digest 30 = .ok (.istore_n 2, 1) := by decide +kernel
theorem dX12_digest_31 : decode cX12_digest 31 = .ok (.iload_n 2, 1) := by decide +kernel
theorem dX12_digest_32 : decode cX12_digest 32 = .ok (.bipush 8, 2) := by decide +kernel
theorem dX12_digest_34 : decode cX12_digest 34 = .ok (.if_icmp .ge 41, 3) := by decide +kernel
theorem dX12_digest_37 : decode cX12_digest 37 = .ok (.aload_n 0, 1) := by decide +kernel
theorem dX12_digest_38 : decode cX12_digest 38 = .ok (.aload_n 0, 1) := by decide +kernel
theorem dX12_digest_39 : decode cX12_digest 39 = .ok (.getfield 71, 3) := by decide +kernel
theorem dX12_digest_42 : decode cX12_digest 42 = .ok (.bipush 8, 2) := by decide +kernel
theorem dX12_digest_44 : decode cX12_digest 44 = .ok (.iload_n 1, 1) := by decide +kernel
theorem dX12_digest_45 : decode cX12_digest 45 = .ok (.imul, 1) := by decide +kernel
theorem dX12_digest_46 : decode cX12_digest 46 = .ok (.iload_n 2, 1) := by decide +kernel
theorem dX12_digest_47 : decode cX12_digest 47 = .ok (.iadd, 1) := by decide +kernel
theorem dX12_digest_48 : decode cX12_digest 48 = .ok (.iaload, 1) := by decide +kernel
theorem dX12_digest_49 : decode cX12_digest 49 = .ok (.i2l, 1) := by decide +kernel
theorem dX12_digest_50 : decode cX12_digest 50 = .ok (.invokevirtual 319, 3) := by decide +kernel
theorem dX12_digest_53 : decode cX12_digest 53 = .ok (.aload_n 0, 1) := by decide +kernel
theorem dX12_digest_54 : decode cX12_digest 54 = .ok (.aload_n 0, 1) := by decide +kernel
theorem dX12_digest_55 : decode cX12_digest 55 = .ok (.getfield 74, 3) := by decide +kernel
theorem dX12_digest_58 : decode cX12_digest 58 = .ok (.bipush 8, 2) := by decide +kernel
theorem dX12_digest_60 : decode cX12_digest 60 = .ok (.iload_n 1, 1) := by decide +kernel
theorem dX12_digest_61 : decode cX12_digest 61 = .ok (.imul, 1) := by decide +kernel
theorem dX12_digest_62 : decode cX12_digest 62 = .ok (.iload_n 2, 1) := by decide +kernel
theorem dX12_digest_63 : decode cX12_digest 63 = .ok (.iadd, 1) := by decide +kernel
theorem dX12_digest_64 : decode cX12_digest 64 = .ok (.iaload, 1) := by decide +kernel
theorem dX12_digest_65 : decode cX12_digest 65 = .ok (.i2l, 1) := by decide +kernel
theorem dX12_digest_66 : decode cX12_digest 66 = .ok (.invokevirtual 319, 3) := by decide +kernel
theorem dX12_digest_69 : decode cX12_digest 69 = .ok (.iinc 2 1, 3) := by decide +kernel
theorem dX12_digest_72 : decode cX12_digest 72 = .ok (.goto (-41), 3) := by decide +kernel
theorem dX12_digest_75 : decode cX12_digest 75 = .ok (.iconst 0, 1) := by decide +kernel
theorem dX12_digest_76 : decode cX12_digest 76 = .ok (.istore_n 2, 1) := by decide +kernel
theorem dX12_digest_77 : decode cX12_digest 77 = .ok (.iload_n 2, 1) := by decide +kernel
theorem dX12_digest_78 : decode cX12_digest 78 = .ok (.aload_n 0, 1) := by decide +kernel
theorem dX12_digest_79 : decode cX12_digest 79 = .ok (.getfield 83, 3) := by decide +kernel
theorem dX12_digest_82 : decode cX12_digest 82 = .ok (.iload_n 1, 1) := by decide +kernel
theorem dX12_digest_83 : decode cX12_digest 83 = .ok (.iaload, 1) := by decide +kernel
theorem dX12_digest_84 : decode cX12_digest 84 = .ok (.if_icmp .ge 25, 3) := by decide +kernel
theorem dX12_digest_87 : decode cX12_digest 87 = .ok (.aload_n 0, 1) := by decide +kernel
theorem dX12_digest_88 : decode cX12_digest 88 = .ok (.aload_n 0, 1) := by decide +kernel
theorem dX12_digest_89 : decode cX12_digest 89 = .ok (.getfield 86, 3) := by decide +kernel
theorem dX12_digest_92 : decode cX12_digest 92 = .ok (.bipush 16, 2) := by decide +kernel
theorem dX12_digest_94 : decode cX12_digest 94 = .ok (.iload_n 1, 1) := by decide +kernel
theorem dX12_digest_95 : decode cX12_digest 95 = .ok (.imul, 1) := by decide +kernel
theorem dX12_digest_96 : decode cX12_digest 96 = .ok (.iload_n 2, 1) := by decide +kernel
theorem dX12_digest_97 : decode cX12_digest 97 = .ok (.iadd, 1) := by decide +kernel
theorem dX12_digest_98 : decode cX12_digest 98 = .ok (.iaload, 1) := by decide +kernel
theorem dX12_digest_99 : decode cX12_digest 99 = .ok (.i2l, 1) := by decide +kernel
theorem dX12_digest_100 : decode cX12_digest 100 = .ok (.invokevirtual 319, 3) := by decide +kernel
theorem dX12_digest_103 : decode cX12_digest 103 = .ok (.iinc 2 1, 3) := by decide +kernel
theorem dX12_digest_106 : decode cX12_digest 106 = .ok (.goto (-29), 3) := by decide +kernel
theorem dX12_digest_109 : decode cX12_digest 109 = .ok (.iinc 1 1, 3) := by decide +kernel
theorem dX12_digest_112 : decode cX12_digest 112 = .ok (.goto (-99), 3) := by decide +kernel
theorem dX12_digest_115 : decode cX12_digest 115 = .ok (.iconst 0, 1) := by decide +kernel
theorem dX12_digest_116 : decode cX12_digest 116 = .ok (.istore_n 1, 1) := by decide +kernel
theorem dX12_digest_117 : decode cX12_digest 117 = .ok (.iload_n 1, 1) := by decide +kernel
theorem dX12_digest_118 : decode cX12_digest 118 = .ok (.aload_n 0, 1) := by decide +kernel
theorem dX12_digest_119 : decode cX12_digest 119 = .ok (.getfield 278, 3) := by decide +kernel
theorem dX12_digest_122 : decode cX12_digest 122 = .ok (.if_icmp .ge 31, 3) := by decide +kernel
theorem dX12_digest_125 : decode cX12_digest 125 = .ok (.aload_n 0, 1) := by decide +kernel
theorem dX12_digest_126 : decode cX12_digest 126 = .ok (.aload_n 0, 1) := by decide +kernel
theorem dX12_digest_127 : decode cX12_digest 127 = .ok (.getfield 77, 3) := by decide +kernel
theorem dX12_digest_130 : decode cX12_digest 130 = .ok (.iload_n 1, 1) := by decide +kernel
theorem dX12_digest_131 : decode cX12_digest 131 = .ok (.iaload, 1) := by decide +kernel
theorem dX12_digest_132 : decode cX12_digest 132 = .ok (.i2l, 1) := by decide +kernel
theorem dX12_digest_133 : decode cX12_digest 133 = .ok (.invokevirtual 319, 3) := by decide +kernel
theorem dX12_digest_136 : decode cX12_digest 136 = .ok (.aload_n 0, 1) := by decide +kernel
theorem dX12_digest_137 : decode cX12_digest 137 = .ok (.aload_n 0, 1) := by decide +kernel
theorem dX12_digest_138 : decode cX12_digest 138 = .ok (.getfield 80, 3) := by decide +kernel
theorem dX12_digest_141 : decode cX12_digest 141 = .ok (.iload_n 1, 1) := by decide +kernel
theorem dX12_digest_142 : decode cX12_digest 142 = .ok (.iaload, 1) := by decide +kernel
theorem dX12_digest_143 : decode cX12_digest 143 = .ok (.i2l, 1) := by decide +kernel
theorem dX12_digest_144 : decode cX12_digest 144 = .ok (.invokevirtual 319, 3) := by decide +kernel
theorem dX12_digest_147 : decode cX12_digest 147 = .ok (.iinc 1 1, 3) := by decide +kernel
theorem dX12_digest_150 : decode cX12_digest 150 = .ok (.goto (-33), 3) := by decide +kernel
theorem dX12_digest_153 : decode cX12_digest 153 = .ok (.iconst 0, 1) := by decide +kernel
theorem dX12_digest_154 : decode cX12_digest 154 = .ok (.istore_n 1, 1) := by decide +kernel
theorem dX12_digest_155 : decode cX12_digest 155 = .ok (.iload_n 1, 1) := by decide +kernel
theorem dX12_digest_156 : decode cX12_digest 156 = .ok (.aload_n 0, 1) := by decide +kernel
theorem dX12_digest_157 : decode cX12_digest 157 = .ok (.getfield 293, 3) := by decide +kernel
theorem dX12_digest_160 : decode cX12_digest 160 = .ok (.if_icmp .ge 48, 3) := by decide +kernel
theorem dX12_digest_163 : decode cX12_digest 163 = .ok (.aload_n 0, 1) := by decide +kernel
theorem dX12_digest_164 : decode cX12_digest 164 = .ok (.aload_n 0, 1) := by decide +kernel
theorem dX12_digest_165 : decode cX12_digest 165 = .ok (.getfield 89, 3) := by decide +kernel
theorem dX12_digest_168 : decode cX12_digest 168 = .ok (.iload_n 1, 1) := by decide +kernel
theorem dX12_digest_169 : decode cX12_digest 169 = .ok (.iaload, 1) := by decide +kernel
theorem dX12_digest_170 : decode cX12_digest 170 = .ok (.i2l, 1) := by decide +kernel
theorem dX12_digest_171 : decode cX12_digest 171 = .ok (.invokevirtual 319, 3) := by decide +kernel
theorem dX12_digest_174 : decode cX12_digest 174 = .ok (.iconst 0, 1) := by decide +kernel
theorem dX12_digest_175 : decode cX12_digest 175 = .ok (.istore_n 2, 1) := by decide +kernel
theorem dX12_digest_176 : decode cX12_digest 176 = .ok (.iload_n 2, 1) := by decide +kernel
theorem dX12_digest_177 : decode cX12_digest 177 = .ok (.iconst 4, 1) := by decide +kernel
theorem dX12_digest_178 : decode cX12_digest 178 = .ok (.if_icmp .ge 24, 3) := by decide +kernel
theorem dX12_digest_181 : decode cX12_digest 181 = .ok (.aload_n 0, 1) := by decide +kernel
theorem dX12_digest_182 : decode cX12_digest 182 = .ok (.aload_n 0, 1) := by decide +kernel
theorem dX12_digest_183 : decode cX12_digest 183 = .ok (.getfield 92, 3) := by decide +kernel
theorem dX12_digest_186 : decode cX12_digest 186 = .ok (.iconst 4, 1) := by decide +kernel
theorem dX12_digest_187 : decode cX12_digest 187 = .ok (.iload_n 1, 1) := by decide +kernel
theorem dX12_digest_188 : decode cX12_digest 188 = .ok (.imul, 1) := by decide +kernel
theorem dX12_digest_189 : decode cX12_digest 189 = .ok (.iload_n 2, 1) := by decide +kernel
theorem dX12_digest_190 : decode cX12_digest 190 = .ok (.iadd, 1) := by decide +kernel
theorem dX12_digest_191 : decode cX12_digest 191 = .ok (.iaload, 1) := by decide +kernel
theorem dX12_digest_192 : decode cX12_digest 192 = .ok (.i2l, 1) := by decide +kernel
theorem dX12_digest_193 : decode cX12_digest 193 = .ok (.invokevirtual 319, 3) := by decide +kernel
theorem dX12_digest_196 : decode cX12_digest 196 = .ok (.iinc 2 1, 3) := by decide +kernel
theorem dX12_digest_199 : decode cX12_digest 199 = .ok (.goto (-23), 3) := by decide +kernel
theorem dX12_digest_202 : decode cX12_digest 202 = .ok (.iinc 1 1, 3) := by decide +kernel
theorem dX12_digest_205 : decode cX12_digest 205 = .ok (.goto (-50), 3) := by decide +kernel
theorem dX12_digest_208 : decode cX12_digest 208 = .ok (.iconst 0, 1) := by decide +kernel
theorem dX12_digest_209 : decode cX12_digest 209 = .ok (.istore_n 1, 1) := by decide +kernel
theorem dX12_digest_210 : decode cX12_digest 210 = .ok (.iload_n 1, 1) := by decide +kernel
theorem dX12_digest_211 : decode cX12_digest 211 = .ok (.iconst 4, 1) := by decide +kernel
theorem dX12_digest_212 : decode cX12_digest 212 = .ok (.if_icmp .ge 20, 3) := by decide +kernel
theorem dX12_digest_215 : decode cX12_digest 215 = .ok (.aload_n 0, 1) := by decide +kernel
theorem dX12_digest_216 : decode cX12_digest 216 = .ok (.aload_n 0, 1) := by decide +kernel
theorem dX12_digest_217 : decode cX12_digest 217 = .ok (.getfield 95, 3) := by decide +kernel
theorem dX12_digest_220 : decode cX12_digest 220 = .ok (.iload_n 1, 1) := by decide +kernel
theorem dX12_digest_221 : decode cX12_digest 221 = .ok (.iaload, 1) := by decide +kernel
theorem dX12_digest_222 : decode cX12_digest 222 = .ok (.i2l, 1) := by decide +kernel
theorem dX12_digest_223 : decode cX12_digest 223 = .ok (.invokevirtual 319, 3) := by decide +kernel
theorem dX12_digest_226 : decode cX12_digest 226 = .ok (.iinc 1 1, 3) := by decide +kernel
theorem dX12_digest_229 : decode cX12_digest 229 = .ok (.goto (-19), 3) := by decide +kernel
theorem dX12_digest_232 : decode cX12_digest 232 = .ok (.iconst 0, 1) := by decide +kernel
theorem dX12_digest_233 : decode cX12_digest 233 = .ok (.istore_n 1, 1) := by decide +kernel
theorem dX12_digest_234 : decode cX12_digest 234 = .ok (.iload_n 1, 1) := by decide +kernel
theorem dX12_digest_235 : decode cX12_digest 235 = .ok (.aload_n 0, 1) := by decide +kernel
theorem dX12_digest_236 : decode cX12_digest 236 = .ok (.getfield 304, 3) := by decide +kernel
theorem dX12_digest_239 : decode cX12_digest 239 = .ok (.if_icmp .ge 20, 3) := by decide +kernel
theorem dX12_digest_242 : decode cX12_digest 242 = .ok (.aload_n 0, 1) := by decide +kernel
theorem dX12_digest_243 : decode cX12_digest 243 = .ok (.aload_n 0, 1) := by decide +kernel
theorem dX12_digest_244 : decode cX12_digest 244 = .ok (.getfield 98, 3) := by decide +kernel
theorem dX12_digest_247 : decode cX12_digest 247 = .ok (.iload_n 1, 1) := by decide +kernel
theorem dX12_digest_248 : decode cX12_digest 248 = .ok (.iaload, 1) := by decide +kernel
theorem dX12_digest_249 : decode cX12_digest 249 = .ok (.i2l, 1) := by decide +kernel
theorem dX12_digest_250 : decode cX12_digest 250 = .ok (.invokevirtual 319, 3) := by decide +kernel
theorem dX12_digest_253 : decode cX12_digest 253 = .ok (.iinc 1 1, 3) := by decide +kernel
theorem dX12_digest_256 : decode cX12_digest 256 = .ok (.goto (-22), 3) := by decide +kernel
theorem dX12_digest_259 : decode cX12_digest 259 = .ok (.iconst 0, 1) := by decide +kernel
theorem dX12_digest_260 : decode cX12_digest 260 = .ok (.istore_n 1, 1) := by decide +kernel
theorem dX12_digest_261 : decode cX12_digest 261 = .ok (.iload_n 1, 1) := by decide +kernel
theorem dX12_digest_262 : decode cX12_digest 262 = .ok (.aload_n 0, 1) := by decide +kernel
theorem dX12_digest_263 : decode cX12_digest 263 = .ok (.getfield 170, 3) := by decide +kernel
theorem dX12_digest_266 : decode cX12_digest 266 = .ok (.if_icmp .ge 20, 3) := by decide +kernel
theorem dX12_digest_269 : decode cX12_digest 269 = .ok (.aload_n 0, 1) := by decide +kernel
theorem dX12_digest_270 : decode cX12_digest 270 = .ok (.aload_n 0, 1) := by decide +kernel
theorem dX12_digest_271 : decode cX12_digest 271 = .ok (.getfield 28, 3) := by decide +kernel
theorem dX12_digest_274 : decode cX12_digest 274 = .ok (.iload_n 1, 1) := by decide +kernel
theorem dX12_digest_275 : decode cX12_digest 275 = .ok (.baload, 1) := by decide +kernel
theorem dX12_digest_276 : decode cX12_digest 276 = .ok (.i2l, 1) := by decide +kernel
theorem dX12_digest_277 : decode cX12_digest 277 = .ok (.invokevirtual 319, 3) := by decide +kernel
theorem dX12_digest_280 : decode cX12_digest 280 = .ok (.iinc 1 1, 3) := by decide +kernel
theorem dX12_digest_283 : decode cX12_digest 283 = .ok (.goto (-22), 3) := by decide +kernel
theorem dX12_digest_286 : decode cX12_digest 286 = .ok (.iconst 0, 1) := by decide +kernel
theorem dX12_digest_287 : decode cX12_digest 287 = .ok (.istore_n 1, 1) := by decide +kernel
theorem dX12_digest_288 : decode cX12_digest 288 = .ok (.iload_n 1, 1) := by decide +kernel
theorem dX12_digest_289 : decode cX12_digest 289 = .ok (.bipush 10, 2) := by decide +kernel
theorem dX12_digest_291 : decode cX12_digest 291 = .ok (.if_icmp .ge 19, 3) := by decide +kernel
theorem dX12_digest_294 : decode cX12_digest 294 = .ok (.aload_n 0, 1) := by decide +kernel
theorem dX12_digest_295 : decode cX12_digest 295 = .ok (.aload_n 0, 1) := by decide +kernel
theorem dX12_digest_296 : decode cX12_digest 296 = .ok (.iload_n 1, 1) := by decide +kernel
theorem dX12_digest_297 : decode cX12_digest 297 = .ok (.invokevirtual 310, 3) := by decide +kernel
theorem dX12_digest_300 : decode cX12_digest 300 = .ok (.i2l, 1) := by decide +kernel
theorem dX12_digest_301 : decode cX12_digest 301 = .ok (.invokevirtual 319, 3) := by decide +kernel
theorem dX12_digest_304 : decode cX12_digest 304 = .ok (.iinc 1 1, 3) := by decide +kernel
theorem dX12_digest_307 : decode cX12_digest 307 = .ok (.goto (-19), 3) := by decide +kernel
theorem dX12_digest_310 : decode cX12_digest 310 = .ok (.aload_n 0, 1) := by decide +kernel
theorem dX12_digest_311 : decode cX12_digest 311 = .ok (.getfield 315, 3) := by decide +kernel
theorem dX12_digest_314 : decode cX12_digest 314 = .ok (.lreturn, 1) := by decide +kernel
theorem cd_215 (G : ZG) (d : Nat) (K : ZKt) (F : ZFt) (hT : zt5 G.2.2.2) : CS G RX12 cX12_digest 3 d K (some .long) [] (fun _ => []) 0 (bd_215 G.2.2.2 K F) := by
  unfold bd_215
  exact (CS.seq 7 (CS.putL (CE.aload_n rfl dX12_digest_0 zhd) (CX.pure (CE.ldc2 lc_X12_323 dX12_digest_1 zhd)) fp_X12_315 dX12_digest_4 zhd)
  (CS.seq 11 (CS.callV (CA.ref (CE.aload_n rfl dX12_digest_7 zhd) CA.nil) zi_214 cv_X12_325 (fun _ => rfl) dX12_digest_8 zhd)
  (CS.seq 115 (CS.scope (CS.seq 13 (CS.decI_n (CX.pure (CE.iconst kI_0 dX12_digest_11 zhd)) rfl (by decide) dX12_digest_12 zhd)
  (CS.whl (T := 18) (F := 115) (p1 := 112) (CD.pure (CC.icmp_lt_F (T := 18) (F := 115) (CE.iload_n rfl dX12_digest_13 zhd) (CE.iconst kI_4 dX12_digest_14 zhd) dX12_digest_15 rfl rfl))
  (CS.seq 109 (CS.seq 29 (CS.callV (CA.ref (CE.aload_n rfl dX12_digest_18 zhd) (CA.long (CE.i2l (CE.aldI (CE.getR (CE.aload_n rfl dX12_digest_19 zhd) fs_X12_68 dX12_digest_20 zhd) (CE.iload_n rfl dX12_digest_23 zhd) (Or.inl ⟨rfl, dX12_digest_24⟩) zhd) dX12_digest_25 zhd) CA.nil)) zi_213 cv_X12_319 (fun _ => rfl) dX12_digest_26 zhd)
  (CS.seq 75 (CS.scope (CS.seq 31 (CS.decI_n (CX.pure (CE.iconst kI_0 dX12_digest_29 zhd)) rfl (by decide) dX12_digest_30 zhd)
  (CS.whl (T := 37) (F := 75) (p1 := 72) (CD.pure (CC.icmp_lt_F (T := 37) (F := 75) (CE.iload_n rfl dX12_digest_31 zhd) (CE.bipush kB_8 dX12_digest_32 zhd) dX12_digest_34 rfl rfl))
  (CS.seq 69 (CS.seq 53 (CS.callV (CA.ref (CE.aload_n rfl dX12_digest_37 zhd) (CA.long (CE.i2l (CE.aldI (CE.getR (CE.aload_n rfl dX12_digest_38 zhd) fs_X12_71 dX12_digest_39 zhd) (CE.iadd (CE.imul (CE.bipush kB_8 dX12_digest_42 zhd) (CE.iload_n rfl dX12_digest_44 zhd) dX12_digest_45 zhd) (CE.iload_n rfl dX12_digest_46 zhd) dX12_digest_47 zhd) (Or.inl ⟨rfl, dX12_digest_48⟩) zhd) dX12_digest_49 zhd) CA.nil)) zi_213 cv_X12_319 (fun _ => rfl) dX12_digest_50 zhd)
  (CS.callV (CA.ref (CE.aload_n rfl dX12_digest_53 zhd) (CA.long (CE.i2l (CE.aldI (CE.getR (CE.aload_n rfl dX12_digest_54 zhd) fs_X12_74 dX12_digest_55 zhd) (CE.iadd (CE.imul (CE.bipush kB_8 dX12_digest_58 zhd) (CE.iload_n rfl dX12_digest_60 zhd) dX12_digest_61 zhd) (CE.iload_n rfl dX12_digest_62 zhd) dX12_digest_63 zhd) (Or.inl ⟨rfl, dX12_digest_64⟩) zhd) dX12_digest_65 zhd) CA.nil)) zi_213 cv_X12_319 (fun _ => rfl) dX12_digest_66 zhd))
  (CS.inc kI_1 (by decide) dX12_digest_69 zhd)) dX12_digest_72 rfl zhd)))
  (CS.scope (CS.seq 77 (CS.decI_n (CX.pure (CE.iconst kI_0 dX12_digest_75 zhd)) rfl (by decide) dX12_digest_76 zhd)
  (CS.whl (T := 87) (F := 109) (p1 := 106) (CD.pure (CC.icmp_lt_F (T := 87) (F := 109) (CE.iload_n rfl dX12_digest_77 zhd) (CE.aldI (CE.getR (CE.aload_n rfl dX12_digest_78 zhd) fs_X12_83 dX12_digest_79 zhd) (CE.iload_n rfl dX12_digest_82 zhd) (Or.inl ⟨rfl, dX12_digest_83⟩) zhd) dX12_digest_84 rfl rfl))
  (CS.seq 103 (CS.callV (CA.ref (CE.aload_n rfl dX12_digest_87 zhd) (CA.long (CE.i2l (CE.aldI (CE.getR (CE.aload_n rfl dX12_digest_88 zhd) fs_X12_86 dX12_digest_89 zhd) (CE.iadd (CE.imul (CE.bipush kB_16 dX12_digest_92 zhd) (CE.iload_n rfl dX12_digest_94 zhd) dX12_digest_95 zhd) (CE.iload_n rfl dX12_digest_96 zhd) dX12_digest_97 zhd) (Or.inl ⟨rfl, dX12_digest_98⟩) zhd) dX12_digest_99 zhd) CA.nil)) zi_213 cv_X12_319 (fun _ => rfl) dX12_digest_100 zhd)
  (CS.inc kI_1 (by decide) dX12_digest_103 zhd)) dX12_digest_106 rfl zhd)))))
  (CS.inc kI_1 (by decide) dX12_digest_109 zhd)) dX12_digest_112 rfl zhd)))
  (CS.seq 153 (CS.scope (CS.seq 117 (CS.decI_n (CX.pure (CE.iconst kI_0 dX12_digest_115 zhd)) rfl (by decide) dX12_digest_116 zhd)
  (CS.whl (T := 125) (F := 153) (p1 := 150) (CD.pure (CC.icmp_lt_F (T := 125) (F := 153) (CE.iload_n rfl dX12_digest_117 zhd) (CE.getI (CE.aload_n rfl dX12_digest_118 zhd) fs_X12_278 dX12_digest_119 zhd) dX12_digest_122 rfl rfl))
  (CS.seq 147 (CS.seq 136 (CS.callV (CA.ref (CE.aload_n rfl dX12_digest_125 zhd) (CA.long (CE.i2l (CE.aldI (CE.getR (CE.aload_n rfl dX12_digest_126 zhd) fs_X12_77 dX12_digest_127 zhd) (CE.iload_n rfl dX12_digest_130 zhd) (Or.inl ⟨rfl, dX12_digest_131⟩) zhd) dX12_digest_132 zhd) CA.nil)) zi_213 cv_X12_319 (fun _ => rfl) dX12_digest_133 zhd)
  (CS.callV (CA.ref (CE.aload_n rfl dX12_digest_136 zhd) (CA.long (CE.i2l (CE.aldI (CE.getR (CE.aload_n rfl dX12_digest_137 zhd) fs_X12_80 dX12_digest_138 zhd) (CE.iload_n rfl dX12_digest_141 zhd) (Or.inl ⟨rfl, dX12_digest_142⟩) zhd) dX12_digest_143 zhd) CA.nil)) zi_213 cv_X12_319 (fun _ => rfl) dX12_digest_144 zhd))
  (CS.inc kI_1 (by decide) dX12_digest_147 zhd)) dX12_digest_150 rfl zhd)))
  (CS.seq 208 (CS.scope (CS.seq 155 (CS.decI_n (CX.pure (CE.iconst kI_0 dX12_digest_153 zhd)) rfl (by decide) dX12_digest_154 zhd)
  (CS.whl (T := 163) (F := 208) (p1 := 205) (CD.pure (CC.icmp_lt_F (T := 163) (F := 208) (CE.iload_n rfl dX12_digest_155 zhd) (CE.getI (CE.aload_n rfl dX12_digest_156 zhd) fs_X12_293 dX12_digest_157 zhd) dX12_digest_160 rfl rfl))
  (CS.seq 202 (CS.seq 174 (CS.callV (CA.ref (CE.aload_n rfl dX12_digest_163 zhd) (CA.long (CE.i2l (CE.aldI (CE.getR (CE.aload_n rfl dX12_digest_164 zhd) fs_X12_89 dX12_digest_165 zhd) (CE.iload_n rfl dX12_digest_168 zhd) (Or.inl ⟨rfl, dX12_digest_169⟩) zhd) dX12_digest_170 zhd) CA.nil)) zi_213 cv_X12_319 (fun _ => rfl) dX12_digest_171 zhd)
  (CS.scope (CS.seq 176 (CS.decI_n (CX.pure (CE.iconst kI_0 dX12_digest_174 zhd)) rfl (by decide) dX12_digest_175 zhd)
  (CS.whl (T := 181) (F := 202) (p1 := 199) (CD.pure (CC.icmp_lt_F (T := 181) (F := 202) (CE.iload_n rfl dX12_digest_176 zhd) (CE.iconst kI_4 dX12_digest_177 zhd) dX12_digest_178 rfl rfl))
  (CS.seq 196 (CS.callV (CA.ref (CE.aload_n rfl dX12_digest_181 zhd) (CA.long (CE.i2l (CE.aldI (CE.getR (CE.aload_n rfl dX12_digest_182 zhd) fs_X12_92 dX12_digest_183 zhd) (CE.iadd (CE.imul (CE.iconst kI_4 dX12_digest_186 zhd) (CE.iload_n rfl dX12_digest_187 zhd) dX12_digest_188 zhd) (CE.iload_n rfl dX12_digest_189 zhd) dX12_digest_190 zhd) (Or.inl ⟨rfl, dX12_digest_191⟩) zhd) dX12_digest_192 zhd) CA.nil)) zi_213 cv_X12_319 (fun _ => rfl) dX12_digest_193 zhd)
  (CS.inc kI_1 (by decide) dX12_digest_196 zhd)) dX12_digest_199 rfl zhd))))
  (CS.inc kI_1 (by decide) dX12_digest_202 zhd)) dX12_digest_205 rfl zhd)))
  (CS.seq 232 (CS.scope (CS.seq 210 (CS.decI_n (CX.pure (CE.iconst kI_0 dX12_digest_208 zhd)) rfl (by decide) dX12_digest_209 zhd)
  (CS.whl (T := 215) (F := 232) (p1 := 229) (CD.pure (CC.icmp_lt_F (T := 215) (F := 232) (CE.iload_n rfl dX12_digest_210 zhd) (CE.iconst kI_4 dX12_digest_211 zhd) dX12_digest_212 rfl rfl))
  (CS.seq 226 (CS.callV (CA.ref (CE.aload_n rfl dX12_digest_215 zhd) (CA.long (CE.i2l (CE.aldI (CE.getR (CE.aload_n rfl dX12_digest_216 zhd) fs_X12_95 dX12_digest_217 zhd) (CE.iload_n rfl dX12_digest_220 zhd) (Or.inl ⟨rfl, dX12_digest_221⟩) zhd) dX12_digest_222 zhd) CA.nil)) zi_213 cv_X12_319 (fun _ => rfl) dX12_digest_223 zhd)
  (CS.inc kI_1 (by decide) dX12_digest_226 zhd)) dX12_digest_229 rfl zhd)))
  (CS.seq 259 (CS.scope (CS.seq 234 (CS.decI_n (CX.pure (CE.iconst kI_0 dX12_digest_232 zhd)) rfl (by decide) dX12_digest_233 zhd)
  (CS.whl (T := 242) (F := 259) (p1 := 256) (CD.pure (CC.icmp_lt_F (T := 242) (F := 259) (CE.iload_n rfl dX12_digest_234 zhd) (CE.getI (CE.aload_n rfl dX12_digest_235 zhd) fs_X12_304 dX12_digest_236 zhd) dX12_digest_239 rfl rfl))
  (CS.seq 253 (CS.callV (CA.ref (CE.aload_n rfl dX12_digest_242 zhd) (CA.long (CE.i2l (CE.aldI (CE.getR (CE.aload_n rfl dX12_digest_243 zhd) fs_X12_98 dX12_digest_244 zhd) (CE.iload_n rfl dX12_digest_247 zhd) (Or.inl ⟨rfl, dX12_digest_248⟩) zhd) dX12_digest_249 zhd) CA.nil)) zi_213 cv_X12_319 (fun _ => rfl) dX12_digest_250 zhd)
  (CS.inc kI_1 (by decide) dX12_digest_253 zhd)) dX12_digest_256 rfl zhd)))
  (CS.seq 286 (CS.scope (CS.seq 261 (CS.decI_n (CX.pure (CE.iconst kI_0 dX12_digest_259 zhd)) rfl (by decide) dX12_digest_260 zhd)
  (CS.whl (T := 269) (F := 286) (p1 := 283) (CD.pure (CC.icmp_lt_F (T := 269) (F := 286) (CE.iload_n rfl dX12_digest_261 zhd) (CE.getI (CE.aload_n rfl dX12_digest_262 zhd) fs_X12_170 dX12_digest_263 zhd) dX12_digest_266 rfl rfl))
  (CS.seq 280 (CS.callV (CA.ref (CE.aload_n rfl dX12_digest_269 zhd) (CA.long (CE.i2l (CE.aldI (CE.getR (CE.aload_n rfl dX12_digest_270 zhd) fs_X12_28 dX12_digest_271 zhd) (CE.iload_n rfl dX12_digest_274 zhd) (Or.inr ⟨Or.inl rfl, dX12_digest_275⟩) zhd) dX12_digest_276 zhd) CA.nil)) zi_213 cv_X12_319 (fun _ => rfl) dX12_digest_277 zhd)
  (CS.inc kI_1 (by decide) dX12_digest_280 zhd)) dX12_digest_283 rfl zhd)))
  (CS.seq 310 (CS.scope (CS.seq 288 (CS.decI_n (CX.pure (CE.iconst kI_0 dX12_digest_286 zhd)) rfl (by decide) dX12_digest_287 zhd)
  (CS.whl (T := 294) (F := 310) (p1 := 307) (CD.pure (CC.icmp_lt_F (T := 294) (F := 310) (CE.iload_n rfl dX12_digest_288 zhd) (CE.bipush kB_10 dX12_digest_289 zhd) dX12_digest_291 rfl rfl))
  (CS.seq 304 (CS.callV (CA.ref (CE.aload_n rfl dX12_digest_294 zhd) (CA.long (CE.i2l (CE.callV (by decide) (CA.ref (CE.aload_n rfl dX12_digest_295 zhd) (CA.int (CE.iload_n rfl dX12_digest_296 zhd) CA.nil)) zi_211 cv_X12_310 (fun _ => rfl) dX12_digest_297 zhd) dX12_digest_300 zhd) CA.nil)) zi_213 cv_X12_319 (fun _ => rfl) dX12_digest_301 zhd)
  (CS.inc kI_1 (by decide) dX12_digest_304 zhd)) dX12_digest_307 rfl zhd)))
  (CS.retL (CX.pure (CE.getL (CE.aload_n rfl dX12_digest_310 zhd) fs_X12_315 dX12_digest_311 zhd)) dX12_digest_314))))))))))
theorem dJ6_compare_7cf53_0 : decode cJ6_compare_7cf53 0 = .ok (.iload_n 0, 1) := by decide +kernel
theorem dJ6_compare_7cf53_1 : decode cJ6_compare_7cf53 1 = .ok (.iload_n 1, 1) := by decide +kernel
theorem dJ6_compare_7cf53_2 : decode cJ6_compare_7cf53 2 = .ok (.if_icmp .ge 7, 3) := by decide +kernel
theorem dJ6_compare_7cf53_5 : decode cJ6_compare_7cf53 5 = .ok (.iconst (-1), 1) := by decide +kernel
theorem dJ6_compare_7cf53_6 : decode cJ6_compare_7cf53 6 = .ok (.goto 13, 3) := by decide +kernel
theorem dJ6_compare_7cf53_9 : decode cJ6_compare_7cf53 9 = .ok (.iload_n 0, 1) := by decide +kernel
theorem dJ6_compare_7cf53_10 : decode cJ6_compare_7cf53 10 = .ok (.iload_n 1, 1) := by decide +kernel
theorem dJ6_compare_7cf53_11 : decode cJ6_compare_7cf53 11 = .ok (.if_icmp .ne 7, 3) := by decide +kernel
theorem dJ6_compare_7cf53_14 : decode cJ6_compare_7cf53 14 = .ok (.iconst 0, 1) := by decide +kernel
theorem dJ6_compare_7cf53_15 : decode cJ6_compare_7cf53 15 = .ok (.goto 4, 3) := by decide +kernel
theorem dJ6_compare_7cf53_18 : decode cJ6_compare_7cf53 18 = .ok (.iconst 1, 1) := by decide +kernel
theorem dJ6_compare_7cf53_19 : decode cJ6_compare_7cf53 19 = .ok (.ireturn, 1) := by decide +kernel
theorem cd_216 (G : ZG) (d : Nat) (K : ZKt) (F : ZFt) (hT : zt5 G.2.2.2) : CS G RJ6 cJ6_compare_7cf53 2 d K (some .int) [] (fun _ => []) 0 (bd_216 G.2.2.2 K F) := by
  unfold bd_216
  exact (CS.retI (CX.pure (CE.tern (T := 5) (F := 9) (p1 := 6) (q := 19) (CC.icmp_lt_F (T := 5) (F := 9) (CE.iload_n rfl dJ6_compare_7cf53_0 zhd) (CE.iload_n rfl dJ6_compare_7cf53_1 zhd) dJ6_compare_7cf53_2 rfl rfl) (CE.iconst kI_m1 dJ6_compare_7cf53_5 zhd) zex2 dJ6_compare_7cf53_6 rfl zhd (CE.tern (T := 14) (F := 18) (p1 := 15) (q := 19) (CC.icmp_eq_F (T := 14) (F := 18) (CE.iload_n rfl dJ6_compare_7cf53_9 zhd) (CE.iload_n rfl dJ6_compare_7cf53_10 zhd) dJ6_compare_7cf53_11 rfl rfl) (CE.iconst kI_0 dJ6_compare_7cf53_14 zhd) zex2 dJ6_compare_7cf53_15 rfl zhd (CE.iconst kI_1 dJ6_compare_7cf53_18 zhd)))) dJ6_compare_7cf53_19)
theorem dJ6_bitCount_0f7a4_0 : decode cJ6_bitCount_0f7a4 0 = .ok (.iload_n 0, 1) := by decide +kernel
theorem dJ6_bitCount_0f7a4_1 : decode cJ6_bitCount_0f7a4 1 = .ok (.iload_n 0, 1) := by decide +kernel
theorem dJ6_bitCount_0f7a4_2 : decode cJ6_bitCount_0f7a4 2 = .ok (.iconst 1, 1) := by decide +kernel
theorem dJ6_bitCount_0f7a4_3 : decode cJ6_bitCount_0f7a4 3 = .ok (.iushr, 1) := by decide +kernel
theorem dJ6_bitCount_0f7a4_4 : decode cJ6_bitCount_0f7a4 4 = .ok (.ldc_w 265, 3) := by decide +kernel
theorem dJ6_bitCount_0f7a4_7 : decode cJ6_bitCount_0f7a4 7 = .ok (.iand, 1) := by decide +kernel
theorem dJ6_bitCount_0f7a4_8 : decode cJ6_bitCount_0f7a4 8 = .ok (.isub, 1) := by decide +kernel
theorem dJ6_bitCount_0f7a4_9 : decode cJ6_bitCount_0f7a4 9 = .ok (.istore_n 0, 1) := by decide +kernel
theorem dJ6_bitCount_0f7a4_10 : decode cJ6_bitCount_0f7a4 10 = .ok (.iload_n 0, 1) := by decide +kernel
theorem dJ6_bitCount_0f7a4_11 : decode cJ6_bitCount_0f7a4 11 = .ok (.ldc_w 266, 3) := by decide +kernel
theorem dJ6_bitCount_0f7a4_14 : decode cJ6_bitCount_0f7a4 14 = .ok (.iand, 1) := by decide +kernel
theorem dJ6_bitCount_0f7a4_15 : decode cJ6_bitCount_0f7a4 15 = .ok (.iload_n 0, 1) := by decide +kernel
theorem dJ6_bitCount_0f7a4_16 : decode cJ6_bitCount_0f7a4 16 = .ok (.iconst 2, 1) := by decide +kernel
theorem dJ6_bitCount_0f7a4_17 : decode cJ6_bitCount_0f7a4 17 = .ok (.iushr, 1) := by decide +kernel
theorem dJ6_bitCount_0f7a4_18 : decode cJ6_bitCount_0f7a4 18 = .ok (.ldc_w 266, 3) := by decide +kernel
theorem dJ6_bitCount_0f7a4_21 : decode cJ6_bitCount_0f7a4 21 = .ok (.iand, 1) := by decide +kernel
theorem dJ6_bitCount_0f7a4_22 : decode cJ6_bitCount_0f7a4 22 = .ok (.iadd, 1) := by decide +kernel
theorem dJ6_bitCount_0f7a4_23 : decode cJ6_bitCount_0f7a4 23 = .ok (.istore_n 0, 1) := by decide +kernel
theorem dJ6_bitCount_0f7a4_24 : decode cJ6_bitCount_0f7a4 24 = .ok (.iload_n 0, 1) := by decide +kernel
theorem dJ6_bitCount_0f7a4_25 : decode cJ6_bitCount_0f7a4 25 = .ok (.iload_n 0, 1) := by decide +kernel
theorem dJ6_bitCount_0f7a4_26 : decode cJ6_bitCount_0f7a4 26 = .ok (.iconst 4, 1) := by decide +kernel
theorem dJ6_bitCount_0f7a4_27 : decode cJ6_bitCount_0f7a4 27 = .ok (.iushr, 1) := by decide +kernel
theorem dJ6_bitCount_0f7a4_28 : decode cJ6_bitCount_0f7a4 28 = .ok (.iadd, 1) := by decide +kernel
theorem dJ6_bitCount_0f7a4_29 : decode cJ6_bitCount_0f7a4 29 = .ok (.ldc_w 267, 3) := by decide +kernel
theorem dJ6_bitCount_0f7a4_32 : decode cJ6_bitCount_0f7a4 32 = .ok (.iand, 1) := by decide +kernel
theorem dJ6_bitCount_0f7a4_33 : decode cJ6_bitCount_0f7a4 33 = .ok (.istore_n 0, 1) := by decide +kernel
theorem dJ6_bitCount_0f7a4_34 : decode cJ6_bitCount_0f7a4 34 = .ok (.iload_n 0, 1) := by decide +kernel
theorem dJ6_bitCount_0f7a4_35 : decode cJ6_bitCount_0f7a4 35 = .ok (.iload_n 0, 1) := by decide +kernel
theorem dJ6_bitCount_0f7a4_36 : decode cJ6_bitCount_0f7a4 36 = .ok (.bipush 8, 2) := by decide +kernel
theorem dJ6_bitCount_0f7a4_38 : decode cJ6_bitCount_0f7a4 38 = .ok (.iushr, 1) := by decide +kernel
theorem dJ6_bitCount_0f7a4_39 : decode cJ6_bitCount_0f7a4 39 = .ok (.iadd, 1) := by decide +kernel
theorem dJ6_bitCount_0f7a4_40 : decode cJ6_bitCount_0f7a4 40 = .ok (.istore_n 0, 1) := by decide +kernel
theorem dJ6_bitCount_0f7a4_41 : decode cJ6_bitCount_0f7a4 41 = .ok (.iload_n 0, 1) := by decide +kernel
theorem dJ6_bitCount_0f7a4_42 : decode cJ6_bitCount_0f7a4 42 = .ok (.iload_n 0, 1) := by decide +kernel
theorem dJ6_bitCount_0f7a4_43 : decode cJ6_bitCount_0f7a4 43 = .ok (.bipush 16, 2) := by decide +kernel
theorem dJ6_bitCount_0f7a4_45 : decode cJ6_bitCount_0f7a4 45 = .ok (.iushr, 1) := by decide +kernel
theorem dJ6_bitCount_0f7a4_46 : decode cJ6_bitCount_0f7a4 46 = .ok (.iadd, 1) := by decide +kernel
theorem dJ6_bitCount_0f7a4_47 : decode cJ6_bitCount_0f7a4 47 = .ok (.istore_n 0, 1) := by decide +kernel
theorem dJ6_bitCount_0f7a4_48 : decode cJ6_bitCount_0f7a4 48 = .ok (.iload_n 0, 1) := by decide +kernel
theorem dJ6_bitCount_0f7a4_49 : decode cJ6_bitCount_0f7a4 49 = .ok (.bipush 63, 2) := by decide +kernel
theorem dJ6_bitCount_0f7a4_51 : decode cJ6_bitCount_0f7a4 51 = .ok (.iand, 1) := by decide +kernel
theorem dJ6_bitCount_0f7a4_52 : decode cJ6_bitCount_0f7a4 52 = .ok (.ireturn, 1) := by decide +kernel
theorem cd_217 (G : ZG) (d : Nat) (K : ZKt) (F : ZFt) (hT : zt5 G.2.2.2) : CS G RJ6 cJ6_bitCount_0f7a4 1 d K (some .int) [] (fun _ => []) 0 (bd_217 G.2.2.2 K F) := by
  unfold bd_217
  exact (CS.seq 10 (CS.setI_n (CX.pure (CE.isub (CE.iload_n rfl dJ6_bitCount_0f7a4_0 zhd) (CE.iand (CE.iushr (CE.iload_n rfl dJ6_bitCount_0f7a4_1 zhd) (CE.iconst kI_1 dJ6_bitCount_0f7a4_2 zhd) dJ6_bitCount_0f7a4_3 zhd) (CE.ldcw lc_J6_265 dJ6_bitCount_0f7a4_4 zhd) dJ6_bitCount_0f7a4_7 zhd) dJ6_bitCount_0f7a4_8 zhd)) rfl (by decide) dJ6_bitCount_0f7a4_9 zhd)
  (CS.seq 24 (CS.setI_n (CX.pure (CE.iadd (CE.iand (CE.iload_n rfl dJ6_bitCount_0f7a4_10 zhd) (CE.ldcw lc_J6_266 dJ6_bitCount_0f7a4_11 zhd) dJ6_bitCount_0f7a4_14 zhd) (CE.iand (CE.iushr (CE.iload_n rfl dJ6_bitCount_0f7a4_15 zhd) (CE.iconst kI_2 dJ6_bitCount_0f7a4_16 zhd) dJ6_bitCount_0f7a4_17 zhd) (CE.ldcw lc_J6_266 dJ6_bitCount_0f7a4_18 zhd) dJ6_bitCount_0f7a4_21 zhd) dJ6_bitCount_0f7a4_22 zhd)) rfl (by decide) dJ6_bitCount_0f7a4_23 zhd)
  (CS.seq 34 (CS.setI_n (CX.pure (CE.iand (CE.iadd (CE.iload_n rfl dJ6_bitCount_0f7a4_24 zhd) (CE.iushr (CE.iload_n rfl dJ6_bitCount_0f7a4_25 zhd) (CE.iconst kI_4 dJ6_bitCount_0f7a4_26 zhd) dJ6_bitCount_0f7a4_27 zhd) dJ6_bitCount_0f7a4_28 zhd) (CE.ldcw lc_J6_267 dJ6_bitCount_0f7a4_29 zhd) dJ6_bitCount_0f7a4_32 zhd)) rfl (by decide) dJ6_bitCount_0f7a4_33 zhd)
  (CS.seq 41 (CS.setI_n (CX.pure (CE.iadd (CE.iload_n rfl dJ6_bitCount_0f7a4_34 zhd) (CE.iushr (CE.iload_n rfl dJ6_bitCount_0f7a4_35 zhd) (CE.bipush kB_8 dJ6_bitCount_0f7a4_36 zhd) dJ6_bitCount_0f7a4_38 zhd) dJ6_bitCount_0f7a4_39 zhd)) rfl (by decide) dJ6_bitCount_0f7a4_40 zhd)
  (CS.seq 48 (CS.setI_n (CX.pure (CE.iadd (CE.iload_n rfl dJ6_bitCount_0f7a4_41 zhd) (CE.iushr (CE.iload_n rfl dJ6_bitCount_0f7a4_42 zhd) (CE.bipush kB_16 dJ6_bitCount_0f7a4_43 zhd) dJ6_bitCount_0f7a4_45 zhd) dJ6_bitCount_0f7a4_46 zhd)) rfl (by decide) dJ6_bitCount_0f7a4_47 zhd)
  (CS.retI (CX.pure (CE.iand (CE.iload_n rfl dJ6_bitCount_0f7a4_48 zhd) (CE.bipush kB_63 dJ6_bitCount_0f7a4_49 zhd) dJ6_bitCount_0f7a4_51 zhd)) dJ6_bitCount_0f7a4_52))))))
theorem dJ7_fill_d0a16_0 : decode cJ7_fill_d0a16 0 = .ok (.iconst 0, 1) := by decide +kernel
theorem dJ7_fill_d0a16_1 : decode cJ7_fill_d0a16 1 = .ok (.istore_n 3, 1) := by decide +kernel
theorem dJ7_fill_d0a16_2 : decode cJ7_fill_d0a16 2 = .ok (.aload_n 0, 1) := by decide +kernel
theorem dJ7_fill_d0a16_3 : decode cJ7_fill_d0a16 3 = .ok (.arraylength, 1) := by decide +kernel
theorem dJ7_fill_d0a16_4 : decode cJ7_fill_d0a16 4 = .ok (.istore 4, 2) := by decide +kernel
theorem dJ7_fill_d0a16_6 : decode cJ7_fill_d0a16 6 = .ok (.iload_n 3, 1) := by decide +kernel
theorem dJ7_fill_d0a16_7 : decode cJ7_fill_d0a16 7 = .ok (.iload 4, 2) := by decide +kernel
theorem dJ7_fill_d0a16_9 : decode cJ7_fill_d0a16 9 = .ok (.if_icmp .ge 13, 3) := by decide +kernel
theorem dJ7_fill_d0a16_12 : decode cJ7_fill_d0a16 12 = .ok (.aload_n 0, 1) := by decide +kernel
theorem dJ7_fill_d0a16_13 : decode cJ7_fill_d0a16 13 = .ok (.iload_n 3, 1) := by decide +kernel
theorem dJ7_fill_d0a16_14 : decode cJ7_fill_d0a16 14 = .ok (.lload_n 1, 1) := by decide +kernel
theorem dJ7_fill_d0a16_15 : decode cJ7_fill_d0a16 15 = .ok (.lastore, 1) := by decide +kernel
theorem dJ7_fill_d0a16_16 : decode cJ7_fill_d0a16 16 = .ok (.iinc 3 1, 3) := by decide +kernel
theorem dJ7_fill_d0a16_19 : decode cJ7_fill_d0a16 19 = .ok (.goto (-13), 3) := by decide +kernel
theorem dJ7_fill_d0a16_22 : decode cJ7_fill_d0a16 22 = .ok (.return_, 1) := by decide +kernel
theorem cd_218 (G : ZG) (d : Nat) (K : ZKt) (F : ZFt) (hT : zt5 G.2.2.2) : CS G RJ7 cJ7_fill_d0a16 5 d K (none) [] (fun _ => []) 0 (bd_218 G.2.2.2 K F) := by
  unfold bd_218
  exact (CS.seq 22 (CS.seq 2 (CS.decI_n (CX.pure (CE.iconst kI_0 dJ7_fill_d0a16_0 zhd)) rfl (by decide) dJ7_fill_d0a16_1 zhd)
  (CS.seq 6 (CS.decI (CX.pure (CE.alen (CE.aload_n rfl dJ7_fill_d0a16_2 zhd) dJ7_fill_d0a16_3 zhd hT)) (by decide) dJ7_fill_d0a16_4 zhd)
  (CS.whl (T := 12) (F := 22) (p1 := 19) (CD.pure (CC.icmp_lt_F (T := 12) (F := 22) (CE.iload_n rfl dJ7_fill_d0a16_6 zhd) (CE.iload dJ7_fill_d0a16_7 zhd) dJ7_fill_d0a16_9 rfl rfl))
  (CS.seq 16 (CS.stL (CE.aload_n rfl dJ7_fill_d0a16_12 zhd) (CE.iload_n rfl dJ7_fill_d0a16_13 zhd) (CE.lload_n rfl dJ7_fill_d0a16_14 zhd) dJ7_fill_d0a16_15 zhd)
  (CS.inc kI_1 (by decide) dJ7_fill_d0a16_16 zhd)) dJ7_fill_d0a16_19 rfl zhd)))
  (CS.retV dJ7_fill_d0a16_22))
theorem dJ7_fill_53178_0 : decode cJ7_fill_53178 0 = .ok (.iconst 0, 1) := by decide +kernel
theorem dJ7_fill_53178_1 : decode cJ7_fill_53178 1 = .ok (.istore_n 2, 1) := by decide +kernel
theorem dJ7_fill_53178_2 : decode cJ7_fill_53178 2 = .ok (.aload_n 0, 1) := by decide +kernel
theorem dJ7_fill_53178_3 : decode cJ7_fill_53178 3 = .ok (.arraylength, 1) := by decide +kernel
theorem dJ7_fill_53178_4 : decode cJ7_fill_53178 4 = .ok (.istore_n 3, 1) := by decide +kernel
theorem dJ7_fill_53178_5 : decode cJ7_fill_53178 5 = .ok (.iload_n 2, 1) := by decide +kernel
theorem dJ7_fill_53178_6 : decode cJ7_fill_53178 6 = .ok (.iload_n 3, 1) := by decide +kernel
theorem dJ7_fill_53178_7 : decode cJ7_fill_53178 7 = .ok (.if_icmp .ge 13, 3) := by decide +kernel
theorem dJ7_fill_53178_10 : decode cJ7_fill_53178 10 = .ok (.aload_n 0, 1) := by decide +kernel
theorem dJ7_fill_53178_11 : decode cJ7_fill_53178 11 = .ok (.iload_n 2, 1) := by decide +kernel
theorem dJ7_fill_53178_12 : decode cJ7_fill_53178 12 = .ok (.iload_n 1, 1) := by decide +kernel
theorem dJ7_fill_53178_13 : decode cJ7_fill_53178 13 = .ok (.iastore, 1) := by decide +kernel
theorem dJ7_fill_53178_14 : decode cJ7_fill_53178 14 = .ok (.iinc 2 1, 3) := by decide +kernel
theorem dJ7_fill_53178_17 : decode cJ7_fill_53178 17 = .ok (.goto (-12), 3) := by decide +kernel
theorem dJ7_fill_53178_20 : decode cJ7_fill_53178 20 = .ok (.return_, 1) := by decide +kernel
theorem cd_219 (G : ZG) (d : Nat) (K : ZKt) (F : ZFt) (hT : zt5 G.2.2.2) : CS G RJ7 cJ7_fill_53178 4 d K (none) [] (fun _ => []) 0 (bd_219 G.2.2.2 K F) := by
  unfold bd_219
  exact (CS.seq 20 (CS.seq 2 (CS.decI_n (CX.pure (CE.iconst kI_0 dJ7_fill_53178_0 zhd)) rfl (by decide) dJ7_fill_53178_1 zhd)
  (CS.seq 5 (CS.decI_n (CX.pure (CE.alen (CE.aload_n rfl dJ7_fill_53178_2 zhd) dJ7_fill_53178_3 zhd hT)) rfl (by decide) dJ7_fill_53178_4 zhd)
  (CS.whl (T := 10) (F := 20) (p1 := 17) (CD.pure (CC.icmp_lt_F (T := 10) (F := 20) (CE.iload_n rfl dJ7_fill_53178_5 zhd) (CE.iload_n rfl dJ7_fill_53178_6 zhd) dJ7_fill_53178_7 rfl rfl))
  (CS.seq 14 (CS.st (CE.aload_n rfl dJ7_fill_53178_10 zhd) (CX.pure (CE.iload_n rfl dJ7_fill_53178_11 zhd)) (CX.pure (CE.iload_n rfl dJ7_fill_53178_12 zhd)) (Or.inl ⟨rfl, dJ7_fill_53178_13⟩) zhd)
  (CS.inc kI_1 (by decide) dJ7_fill_53178_14 zhd)) dJ7_fill_53178_17 rfl zhd)))
  (CS.retV dJ7_fill_53178_20))
