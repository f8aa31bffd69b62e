/-! code of the bodies 134 to 158 -/
theorem dX11_lettersIn_0 : decode cX11_lettersIn 0 = .ok (.iconst 0, 1) := by decide +kernel
theorem dX11_lettersIn_1 : decode cX11_lettersIn 1 = .ok (.istore_n 2, 1) := by decide +kernel
theorem dX11_lettersIn_2 : decode cX11_lettersIn 2 = .ok (.iconst 0, 1) := by decide +kernel
theorem dX11_lettersIn_3 : decode cX11_lettersIn 3 = .ok (.istore_n 3, 1) := by decide +kernel
theorem dX11_lettersIn_4 : decode cX11_lettersIn 4 = .ok (.iload_n 3, 1) := by decide +kernel
theorem dX11_lettersIn_5 : decode cX11_lettersIn 5 = .ok (.bipush 8, 2) := by decide +kernel
theorem dX11_lettersIn_7 : decode cX11_lettersIn 7 = .ok (.if_icmp .ge 47, 3) := by decide +kernel
theorem dX11_lettersIn_10 : decode cX11_lettersIn 10 = .ok (.lload_n 0, 1) := by decide +kernel
theorem dX11_lettersIn_11 : decode cX11_lettersIn 11 = .ok (.bipush 8, 2) := by decide +kernel
theorem dX11_lettersIn_13 : decode cX11_lettersIn 13 = .ok (.iload_n 3, 1) := by decide +kernel
theorem dX11_lettersIn_14 : decode cX11_lettersIn 14 = .ok (.imul, 1) := by decide +kernel
theorem dX11_lettersIn_15 : decode cX11_lettersIn 15 = .ok (.lushr, 1) := by decide +kernel
theorem dX11_lettersIn_16 : decode cX11_lettersIn 16 = .ok (.ldc2_w 139, 3) := by decide +kernel
theorem dX11_lettersIn_19 : decode cX11_lettersIn 19 = .ok (.land, 1) := by decide +kernel
theorem dX11_lettersIn_20 : decode cX11_lettersIn 20 = .ok (.l2i, 1) := by decide +kernel
theorem dX11_lettersIn_21 : decode cX11_lettersIn 21 = .ok (.istore 4, 2) := by decide +kernel
theorem dX11_lettersIn_23 : decode cX11_lettersIn 23 = .ok (.iload 4, 2) := by decide +kernel
theorem dX11_lettersIn_25 : decode cX11_lettersIn 25 = .ok (.ifCond .ne 6, 3) := by decide +kernel
theorem dX11_lettersIn_28 : decode cX11_lettersIn 28 = .ok (.goto 20, 3) := by decide +kernel
theorem dX11_lettersIn_31 : decode cX11_lettersIn 31 = .ok (.iload 4, 2) := by decide +kernel
theorem dX11_lettersIn_33 : decode cX11_lettersIn 33 = .ok (.bipush 126, 2) := by decide +kernel
theorem dX11_lettersIn_35 : decode cX11_lettersIn 35 = .ok (.if_icmp .gt 8, 3) := by decide +kernel
theorem dX11_lettersIn_38 : decode cX11_lettersIn 38 = .ok (.iload_n 2, 1) := by decide +kernel
theorem dX11_lettersIn_39 : decode cX11_lettersIn 39 = .ok (.iload_n 3, 1) := by decide +kernel
theorem dX11_lettersIn_40 : decode cX11_lettersIn 40 = .ok (.if_icmp .ge 5, 3) := by decide +kernel
theorem dX11_lettersIn_43 : decode cX11_lettersIn 43 = .ok (.iconst (-1), 1) := by decide +kernel
theorem dX11_lettersIn_44 : decode cX11_lettersIn 44 = .ok (.ireturn, 1) := by decide +kernel
theorem dX11_lettersIn_45 : decode cX11_lettersIn 45 = .ok (.iinc 2 1, 3) := by decide +kernel
theorem dX11_lettersIn_48 : decode cX11_lettersIn 48 = .ok (.iinc 3 1, 3) := by decide +kernel
theorem dX11_lettersIn_51 : decode cX11_lettersIn 51 = .ok (.goto (-47), 3) := by decide +kernel
theorem dX11_lettersIn_54 : decode cX11_lettersIn 54 = .ok (.iload_n 2, 1) := by decide +kernel
theorem dX11_lettersIn_55 : decode cX11_lettersIn 55 = .ok (.ireturn, 1) := by decide +kernel
theorem cd_134 (G : ZG) (d : Nat) (K : ZKt) (F : ZFt) (hT : zt5 G.2.2.2) : CS G RX11 cX11_lettersIn 5 d K (some .int) [] (fun _ => []) 0 (bd_134 G.2.2.2 K F) := by
  unfold bd_134
  exact (CS.seq 2 (CS.decI_n (CX.pure (CE.iconst kI_0 dX11_lettersIn_0 zhd)) rfl (by decide) dX11_lettersIn_1 zhd)
  (CS.seq 54 (CS.scope (CS.seq 4 (CS.decI_n (CX.pure (CE.iconst kI_0 dX11_lettersIn_2 zhd)) rfl (by decide) dX11_lettersIn_3 zhd)
  (CS.for (T := 10) (F := 54) (pu := 48) (p1 := 51) (kb := 1) (kc := 2) (CD.pure (CC.icmp_lt_F (T := 10) (F := 54) (CE.iload_n rfl dX11_lettersIn_4 zhd) (CE.bipush kB_8 dX11_lettersIn_5 zhd) dX11_lettersIn_7 rfl rfl))
  (CS.scope (CS.seq 23 (CS.decI (CX.pure (CE.l2i (CE.land (CE.lushr (CE.lload_n rfl dX11_lettersIn_10 zhd) (CE.imul (CE.bipush kB_8 dX11_lettersIn_11 zhd) (CE.iload_n rfl dX11_lettersIn_13 zhd) dX11_lettersIn_14 zhd) dX11_lettersIn_15 zhd) (CE.ldc2 lc_X11_139 dX11_lettersIn_16 zhd) dX11_lettersIn_19 zhd) dX11_lettersIn_20 zhd)) (by decide) dX11_lettersIn_21 zhd)
  (CS.seq 31 (CS.ifT (F := 31) (CDT.of (CD.pure (CC.if_eq_F (T := 28) (F := 31) (CE.iload dX11_lettersIn_23 zhd) dX11_lettersIn_25 rfl rfl)) zhd) (CS.brk (q := 48) dX11_lettersIn_28 rfl zhd) (CS.brk0 zhd) zhd)
  (CS.seq 45 (CS.if1 (T := 43) (F := 45) (CD.pure (CC.or (CC.icmp_gt_T (T := 43) (F := 38) (CE.iload dX11_lettersIn_31 zhd) (CE.bipush kB_126 dX11_lettersIn_33 zhd) dX11_lettersIn_35 rfl rfl) (CC.icmp_lt_F (T := 43) (F := 45) (CE.iload_n rfl dX11_lettersIn_38 zhd) (CE.iload_n rfl dX11_lettersIn_39 zhd) dX11_lettersIn_40 rfl rfl))) (CS.retI (CX.pure (CE.iconst kI_m1 dX11_lettersIn_43 zhd)) dX11_lettersIn_44) zhd)
  (CS.inc kI_1 (by decide) dX11_lettersIn_45 zhd))))) (CS.inc kI_1 (by decide) dX11_lettersIn_48 zhd) dX11_lettersIn_51 rfl zhd)))
  (CS.retI (CX.pure (CE.iload_n rfl dX11_lettersIn_54 zhd)) dX11_lettersIn_55)))
theorem dX12_lies_0 : decode cX12_lies 0 = .ok (.iload_n 0, 1) := by decide +kernel
theorem dX12_lies_1 : decode cX12_lies 1 = .ok (.iload_n 1, 1) := by decide +kernel
theorem dX12_lies_2 : decode cX12_lies 2 = .ok (.if_icmp .lt 12, 3) := by decide +kernel
theorem dX12_lies_5 : decode cX12_lies 5 = .ok (.iload_n 0, 1) := by decide +kernel
theorem dX12_lies_6 : decode cX12_lies 6 = .ok (.iload_n 2, 1) := by decide +kernel
theorem dX12_lies_7 : decode cX12_lies 7 = .ok (.if_icmp .gt 7, 3) := by decide +kernel
theorem dX12_lies_10 : decode cX12_lies 10 = .ok (.iconst 1, 1) := by decide +kernel
theorem dX12_lies_11 : decode cX12_lies 11 = .ok (.goto 4, 3) := by decide +kernel
theorem dX12_lies_14 : decode cX12_lies 14 = .ok (.iconst 0, 1) := by decide +kernel
theorem dX12_lies_15 : decode cX12_lies 15 = .ok (.ireturn, 1) := by decide +kernel
theorem cd_135 (G : ZG) (d : Nat) (K : ZKt) (F : ZFt) (hT : zt5 G.2.2.2) : CS G RX12 cX12_lies 3 d K (some .boolean) [] (fun _ => []) 0 (bd_135 G.2.2.2 K F) := by
  unfold bd_135
  exact (CS.retZ (CX.pure (CE.bool (T := 10) (F := 14) (q := 15) (CC.and (CC.icmp_ge_F (T := 5) (F := 14) (CE.iload_n rfl dX12_lies_0 zhd) (CE.iload_n rfl dX12_lies_1 zhd) dX12_lies_2 rfl rfl) (CC.icmp_le_F (T := 10) (F := 14) (CE.iload_n rfl dX12_lies_5 zhd) (CE.iload_n rfl dX12_lies_6 zhd) dX12_lies_7 rfl rfl)) dX12_lies_10 rfl dX12_lies_11 rfl zhd dX12_lies_14 zhd)) dX12_lies_15)
theorem dX12_isPart_0 : decode cX12_isPart 0 = .ok (.iload_n 0, 1) := by decide +kernel
theorem dX12_isPart_1 : decode cX12_isPart 1 = .ok (.iconst 0, 1) := by decide +kernel
theorem dX12_isPart_2 : decode cX12_isPart 2 = .ok (.bipush 7, 2) := by decide +kernel
theorem dX12_isPart_4 : decode cX12_isPart 4 = .ok (.invokestatic 142, 3) := by decide +kernel
theorem dX12_isPart_7 : decode cX12_isPart 7 = .ok (.ireturn, 1) := by decide +kernel
theorem cd_136 (G : ZG) (d : Nat) (K : ZKt) (F : ZFt) (hT : zt5 G.2.2.2) : CS G RX12 cX12_isPart 1 d K (some .boolean) [] (fun _ => []) 0 (bd_136 G.2.2.2 K F) := by
  unfold bd_136
  exact (CS.retZ (CX.pure (CE.callS (by decide) (CA.int (CE.iload_n rfl dX12_isPart_0 zhd) (CA.int (CE.iconst kI_0 dX12_isPart_1 zhd) (CA.int (CE.bipush kB_7 dX12_isPart_2 zhd) CA.nil))) zi_135 cs_X12_142 (fun _ => rfl) dX12_isPart_4 zhd)) dX12_isPart_7)
theorem dX12_isThing_0 : decode cX12_isThing 0 = .ok (.iload_n 1, 1) := by decide +kernel
theorem dX12_isThing_1 : decode cX12_isThing 1 = .ok (.iconst 0, 1) := by decide +kernel
theorem dX12_isThing_2 : decode cX12_isThing 2 = .ok (.aload_n 0, 1) := by decide +kernel
theorem dX12_isThing_3 : decode cX12_isThing 3 = .ok (.getfield 146, 3) := by decide +kernel
theorem dX12_isThing_6 : decode cX12_isThing 6 = .ok (.iconst 1, 1) := by decide +kernel
theorem dX12_isThing_7 : decode cX12_isThing 7 = .ok (.isub, 1) := by decide +kernel
theorem dX12_isThing_8 : decode cX12_isThing 8 = .ok (.invokestatic 142, 3) := by decide +kernel
theorem dX12_isThing_11 : decode cX12_isThing 11 = .ok (.ireturn, 1) := by decide +kernel
theorem cd_137 (G : ZG) (d : Nat) (K : ZKt) (F : ZFt) (hT : zt5 G.2.2.2) : CS G RX12 cX12_isThing 2 d K (some .boolean) [] (fun _ => []) 0 (bd_137 G.2.2.2 K F) := by
  unfold bd_137
  exact (CS.retZ (CX.pure (CE.callS (by decide) (CA.int (CE.iload_n rfl dX12_isThing_0 zhd) (CA.int (CE.iconst kI_0 dX12_isThing_1 zhd) (CA.int (CE.isub (CE.getI (CE.aload_n rfl dX12_isThing_2 zhd) fs_X12_146 dX12_isThing_3 zhd) (CE.iconst kI_1 dX12_isThing_6 zhd) dX12_isThing_7 zhd) CA.nil))) zi_135 cs_X12_142 (fun _ => rfl) dX12_isThing_8 zhd)) dX12_isThing_11)
theorem dX12_isMadeOf_0 : decode cX12_isMadeOf 0 = .ok (.iconst 0, 1) := by decide +kernel
theorem dX12_isMadeOf_1 : decode cX12_isMadeOf 1 = .ok (.istore_n 2, 1) := by decide +kernel
theorem dX12_isMadeOf_2 : decode cX12_isMadeOf 2 = .ok (.iconst 0, 1) := by decide +kernel
theorem dX12_isMadeOf_3 : decode cX12_isMadeOf 3 = .ok (.istore_n 3, 1) := by decide +kernel
theorem dX12_isMadeOf_4 : decode cX12_isMadeOf 4 = .ok (.iload_n 3, 1) := by decide +kernel
theorem dX12_isMadeOf_5 : decode cX12_isMadeOf 5 = .ok (.aload_n 0, 1) := by decide +kernel
theorem dX12_isMadeOf_6 : decode cX12_isMadeOf 6 = .ok (.getfield 146, 3) := by decide +kernel
theorem dX12_isMadeOf_9 : decode cX12_isMadeOf 9 = .ok (.if_icmp .ge 29, 3) := by decide +kernel
theorem dX12_isMadeOf_12 : decode cX12_isMadeOf 12 = .ok (.iload_n 2, 1) := by decide +kernel
theorem dX12_isMadeOf_13 : decode cX12_isMadeOf 13 = .ok (.ifCond .ne 13, 3) := by decide +kernel
theorem dX12_isMadeOf_16 : decode cX12_isMadeOf 16 = .ok (.aload_n 0, 1) := by decide +kernel
theorem dX12_isMadeOf_17 : decode cX12_isMadeOf 17 = .ok (.getfield 47, 3) := by decide +kernel
theorem dX12_isMadeOf_20 : decode cX12_isMadeOf 20 = .ok (.iload_n 3, 1) := by decide +kernel
theorem dX12_isMadeOf_21 : decode cX12_isMadeOf 21 = .ok (.iaload, 1) := by decide +kernel
theorem dX12_isMadeOf_22 : decode cX12_isMadeOf 22 = .ok (.iload_n 1, 1) := by decide +kernel
theorem dX12_isMadeOf_23 : decode cX12_isMadeOf 23 = .ok (.if_icmp .ne 7, 3) := by decide +kernel
theorem dX12_isMadeOf_26 : decode cX12_isMadeOf 26 = .ok (.iconst 1, 1) := by decide +kernel
theorem dX12_isMadeOf_27 : decode cX12_isMadeOf 27 = .ok (.goto 4, 3) := by decide +kernel
theorem dX12_isMadeOf_30 : decode cX12_isMadeOf 30 = .ok (.iconst 0, 1) := by decide +kernel
theorem dX12_isMadeOf_31 : decode cX12_isMadeOf 31 = .ok (.istore_n 2, 1) := by decide +kernel
theorem dX12_isMadeOf_32 : decode cX12_isMadeOf 32 = .ok (.iinc 3 1, 3) := by decide +kernel
theorem dX12_isMadeOf_35 : decode cX12_isMadeOf 35 = .ok (.goto (-31), 3) := by decide +kernel
theorem dX12_isMadeOf_38 : decode cX12_isMadeOf 38 = .ok (.iload_n 2, 1) := by decide +kernel
theorem dX12_isMadeOf_39 : decode cX12_isMadeOf 39 = .ok (.ireturn, 1) := by decide +kernel
theorem cd_138 (G : ZG) (d : Nat) (K : ZKt) (F : ZFt) (hT : zt5 G.2.2.2) : CS G RX12 cX12_isMadeOf 4 d K (some .boolean) [] (fun _ => []) 0 (bd_138 G.2.2.2 K F) := by
  unfold bd_138
  exact (CS.seq 2 (CS.decI_n (CX.pure (CE.iconst kI_0 dX12_isMadeOf_0 zhd)) rfl (by decide) dX12_isMadeOf_1 zhd)
  (CS.seq 38 (CS.scope (CS.seq 4 (CS.decI_n (CX.pure (CE.iconst kI_0 dX12_isMadeOf_2 zhd)) rfl (by decide) dX12_isMadeOf_3 zhd)
  (CS.whl (T := 12) (F := 38) (p1 := 35) (CD.pure (CC.icmp_lt_F (T := 12) (F := 38) (CE.iload_n rfl dX12_isMadeOf_4 zhd) (CE.getI (CE.aload_n rfl dX12_isMadeOf_5 zhd) fs_X12_146 dX12_isMadeOf_6 zhd) dX12_isMadeOf_9 rfl rfl))
  (CS.seq 32 (CS.setI_n (CX.pure (CE.bool (T := 26) (F := 30) (q := 31) (CC.or (CC.if_ne_T (T := 26) (F := 16) (CE.iload_n rfl dX12_isMadeOf_12 zhd) dX12_isMadeOf_13 rfl rfl) (CC.icmp_eq_F (T := 26) (F := 30) (CE.aldI (CE.getR (CE.aload_n rfl dX12_isMadeOf_16 zhd) fs_X12_47 dX12_isMadeOf_17 zhd) (CE.iload_n rfl dX12_isMadeOf_20 zhd) (Or.inl ⟨rfl, dX12_isMadeOf_21⟩) zhd) (CE.iload_n rfl dX12_isMadeOf_22 zhd) dX12_isMadeOf_23 rfl rfl)) dX12_isMadeOf_26 rfl dX12_isMadeOf_27 rfl zhd dX12_isMadeOf_30 zhd)) rfl (by decide) dX12_isMadeOf_31 zhd)
  (CS.inc kI_1 (by decide) dX12_isMadeOf_32 zhd)) dX12_isMadeOf_35 rfl zhd)))
  (CS.retZ (CX.pure (CE.iload_n rfl dX12_isMadeOf_38 zhd)) dX12_isMadeOf_39)))
theorem dX12_part_0 : decode cX12_part 0 = .ok (.iload_n 1, 1) := by decide +kernel
theorem dX12_part_1 : decode cX12_part 1 = .ok (.invokestatic 150, 3) := by decide +kernel
theorem dX12_part_4 : decode cX12_part 4 = .ok (.ifCond .eq 12, 3) := by decide +kernel
theorem dX12_part_7 : decode cX12_part 7 = .ok (.iload_n 2, 1) := by decide +kernel
theorem dX12_part_8 : decode cX12_part 8 = .ok (.iconst 0, 1) := by decide +kernel
theorem dX12_part_9 : decode cX12_part 9 = .ok (.iconst 2, 1) := by decide +kernel
theorem dX12_part_10 : decode cX12_part 10 = .ok (.invokestatic 142, 3) := by decide +kernel
theorem dX12_part_13 : decode cX12_part 13 = .ok (.ifCond .ne 6, 3) := by decide +kernel
theorem dX12_part_16 : decode cX12_part 16 = .ok (.bipush (-101), 2) := by decide +kernel
theorem dX12_part_18 : decode cX12_part 18 = .ok (.ireturn, 1) := by decide +kernel
theorem dX12_part_19 : decode cX12_part 19 = .ok (.iload_n 3, 1) := by decide +kernel
theorem dX12_part_20 : decode cX12_part 20 = .ok (.iconst 0, 1) := by decide +kernel
theorem dX12_part_21 : decode cX12_part 21 = .ok (.iload_n 2, 1) := by decide +kernel
theorem dX12_part_22 : decode cX12_part 22 = .ok (.ifCond .ne 8, 3) := by decide +kernel
theorem dX12_part_25 : decode cX12_part 25 = .ok (.bipush 6, 2) := by decide +kernel
theorem dX12_part_27 : decode cX12_part 27 = .ok (.goto 15, 3) := by decide +kernel
theorem dX12_part_30 : decode cX12_part 30 = .ok (.iload_n 2, 1) := by decide +kernel
theorem dX12_part_31 : decode cX12_part 31 = .ok (.iconst 1, 1) := by decide +kernel
theorem dX12_part_32 : decode cX12_part 32 = .ok (.if_icmp .ne 9, 3) := by decide +kernel
theorem dX12_part_35 : decode cX12_part 35 = .ok (.sipush 999, 3) := by decide +kernel
theorem dX12_part_38 : decode cX12_part 38 = .ok (.goto 4, 3) := by decide +kernel
theorem dX12_part_41 : decode cX12_part 41 = .ok (.iconst 3, 1) := by decide +kernel
theorem dX12_part_42 : decode cX12_part 42 = .ok (.invokestatic 142, 3) := by decide +kernel
theorem dX12_part_45 : decode cX12_part 45 = .ok (.ifCond .ne 6, 3) := by decide +kernel
theorem dX12_part_48 : decode cX12_part 48 = .ok (.bipush (-102), 2) := by decide +kernel
theorem dX12_part_50 : decode cX12_part 50 = .ok (.ireturn, 1) := by decide +kernel
theorem dX12_part_51 : decode cX12_part 51 = .ok (.iload_n 2, 1) := by decide +kernel
theorem dX12_part_52 : decode cX12_part 52 = .ok (.ifCond .ne 14, 3) := by decide +kernel
theorem dX12_part_55 : decode cX12_part 55 = .ok (.aload_n 0, 1) := by decide +kernel
theorem dX12_part_56 : decode cX12_part 56 = .ok (.iload_n 1, 1) := by decide +kernel
theorem dX12_part_57 : decode cX12_part 57 = .ok (.invokevirtual 154, 3) := by decide +kernel
theorem dX12_part_60 : decode cX12_part 60 = .ok (.ifCond .eq 6, 3) := by decide +kernel
theorem dX12_part_63 : decode cX12_part 63 = .ok (.bipush (-103), 2) := by decide +kernel
theorem dX12_part_65 : decode cX12_part 65 = .ok (.ireturn, 1) := by decide +kernel
theorem dX12_part_66 : decode cX12_part 66 = .ok (.iload_n 2, 1) := by decide +kernel
theorem dX12_part_67 : decode cX12_part 67 = .ok (.ifCond .ne 12, 3) := by decide +kernel
theorem dX12_part_70 : decode cX12_part 70 = .ok (.aload_n 0, 1) := by decide +kernel
theorem dX12_part_71 : decode cX12_part 71 = .ok (.getfield 7, 3) := by decide +kernel
theorem dX12_part_74 : decode cX12_part 74 = .ok (.iload_n 1, 1) := by decide +kernel
theorem dX12_part_75 : decode cX12_part 75 = .ok (.iaload, 1) := by decide +kernel
theorem dX12_part_76 : decode cX12_part 76 = .ok (.goto 23, 3) := by decide +kernel
theorem dX12_part_79 : decode cX12_part 79 = .ok (.iload_n 2, 1) := by decide +kernel
theorem dX12_part_80 : decode cX12_part 80 = .ok (.iconst 1, 1) := by decide +kernel
theorem dX12_part_81 : decode cX12_part 81 = .ok (.if_icmp .ne 12, 3) := by decide +kernel
theorem dX12_part_84 : decode cX12_part 84 = .ok (.aload_n 0, 1) := by decide +kernel
theorem dX12_part_85 : decode cX12_part 85 = .ok (.getfield 13, 3) := by decide +kernel
theorem dX12_part_88 : decode cX12_part 88 = .ok (.iload_n 1, 1) := by decide +kernel
theorem dX12_part_89 : decode cX12_part 89 = .ok (.iaload, 1) := by decide +kernel
theorem dX12_part_90 : decode cX12_part 90 = .ok (.goto 9, 3) := by decide +kernel
theorem dX12_part_93 : decode cX12_part 93 = .ok (.aload_n 0, 1) := by decide +kernel
theorem dX12_part_94 : decode cX12_part 94 = .ok (.getfield 16, 3) := by decide +kernel
theorem dX12_part_97 : decode cX12_part 97 = .ok (.iload_n 1, 1) := by decide +kernel
theorem dX12_part_98 : decode cX12_part 98 = .ok (.iaload, 1) := by decide +kernel
theorem dX12_part_99 : decode cX12_part 99 = .ok (.istore 4, 2) := by decide +kernel
theorem dX12_part_101 : decode cX12_part 101 = .ok (.aload_n 0, 1) := by decide +kernel
theorem dX12_part_102 : decode cX12_part 102 = .ok (.getfield 7, 3) := by decide +kernel
theorem dX12_part_105 : decode cX12_part 105 = .ok (.iload_n 1, 1) := by decide +kernel
theorem dX12_part_106 : decode cX12_part 106 = .ok (.iload_n 2, 1) := by decide +kernel
theorem dX12_part_107 : decode cX12_part 107 = .ok (.ifCond .ne 7, 3) := by decide +kernel
theorem dX12_part_110 : decode cX12_part 110 = .ok (.iload_n 3, 1) := by decide +kernel
theorem dX12_part_111 : decode cX12_part 111 = .ok (.goto 9, 3) := by decide +kernel
theorem dX12_part_114 : decode cX12_part 114 = .ok (.aload_n 0, 1) := by decide +kernel
theorem dX12_part_115 : decode cX12_part 115 = .ok (.getfield 7, 3) := by decide +kernel
theorem dX12_part_118 : decode cX12_part 118 = .ok (.iload_n 1, 1) := by decide +kernel
theorem dX12_part_119 : decode cX12_part 119 = .ok (.iaload, 1) := by decide +kernel
theorem dX12_part_120 : decode cX12_part 120 = .ok (.iastore, 1) := by decide +kernel
theorem dX12_part_121 : decode cX12_part 121 = .ok (.aload_n 0, 1) := by decide +kernel
theorem dX12_part_122 : decode cX12_part 122 = .ok (.getfield 13, 3) := by decide +kernel
theorem dX12_part_125 : decode cX12_part 125 = .ok (.iload_n 1, 1) := by decide +kernel
theorem dX12_part_126 : decode cX12_part 126 = .ok (.iload_n 2, 1) := by decide +kernel
theorem dX12_part_127 : decode cX12_part 127 = .ok (.iconst 1, 1) := by decide +kernel
theorem dX12_part_128 : decode cX12_part 128 = .ok (.if_icmp .ne 7, 3) := by decide +kernel
theorem dX12_part_131 : decode cX12_part 131 = .ok (.iload_n 3, 1) := by decide +kernel
theorem dX12_part_132 : decode cX12_part 132 = .ok (.goto 9, 3) := by decide +kernel
theorem dX12_part_135 : decode cX12_part 135 = .ok (.aload_n 0, 1) := by decide +kernel
theorem dX12_part_136 : decode cX12_part 136 = .ok (.getfield 13, 3) := by decide +kernel
theorem dX12_part_139 : decode cX12_part 139 = .ok (.iload_n 1, 1) := by decide +kernel
theorem dX12_part_140 : decode cX12_part 140 = .ok (.iaload, 1) := by decide +kernel
theorem dX12_part_141 : decode cX12_part 141 = .ok (.iastore, 1) := by decide +kernel
theorem dX12_part_142 : decode cX12_part 142 = .ok (.aload_n 0, 1) := by decide +kernel
theorem dX12_part_143 : decode cX12_part 143 = .ok (.getfield 16, 3) := by decide +kernel
theorem dX12_part_146 : decode cX12_part 146 = .ok (.iload_n 1, 1) := by decide +kernel
theorem dX12_part_147 : decode cX12_part 147 = .ok (.iload_n 2, 1) := by decide +kernel
theorem dX12_part_148 : decode cX12_part 148 = .ok (.iconst 2, 1) := by decide +kernel
theorem dX12_part_149 : decode cX12_part 149 = .ok (.if_icmp .ne 7, 3) := by decide +kernel
theorem dX12_part_152 : decode cX12_part 152 = .ok (.iload_n 3, 1) := by decide +kernel
theorem dX12_part_153 : decode cX12_part 153 = .ok (.goto 9, 3) := by decide +kernel
theorem dX12_part_156 : decode cX12_part 156 = .ok (.aload_n 0, 1) := by decide +kernel
theorem dX12_part_157 : decode cX12_part 157 = .ok (.getfield 16, 3) := by decide +kernel
theorem dX12_part_160 : decode cX12_part 160 = .ok (.iload_n 1, 1) := by decide +kernel
theorem dX12_part_161 : decode cX12_part 161 = .ok (.iaload, 1) := by decide +kernel
theorem dX12_part_162 : decode cX12_part 162 = .ok (.iastore, 1) := by decide +kernel
theorem dX12_part_163 : decode cX12_part 163 = .ok (.iload 4, 2) := by decide +kernel
theorem dX12_part_165 : decode cX12_part 165 = .ok (.ireturn, 1) := by decide +kernel
theorem cd_139 (G : ZG) (d : Nat) (K : ZKt) (F : ZFt) (hT : zt5 G.2.2.2) : CS G RX12 cX12_part 5 d K (some .int) [] (fun _ => []) 0 (bd_139 G.2.2.2 K F) := by
  unfold bd_139
  exact (CS.seq 19 (CS.if1 (T := 16) (F := 19) (CD.pure (CC.or (CC.not (CC.if_ne_F (T := 7) (F := 16) (CE.callS (by decide) (CA.int (CE.iload_n rfl dX12_part_0 zhd) CA.nil) zi_136 cs_X12_150 (fun _ => rfl) dX12_part_1 zhd) dX12_part_4 rfl rfl)) (CC.not (CC.if_ne_T (T := 19) (F := 16) (CE.callS (by decide) (CA.int (CE.iload_n rfl dX12_part_7 zhd) (CA.int (CE.iconst kI_0 dX12_part_8 zhd) (CA.int (CE.iconst kI_2 dX12_part_9 zhd) CA.nil))) zi_135 cs_X12_142 (fun _ => rfl) dX12_part_10 zhd) dX12_part_13 rfl rfl)))) (CS.retI (CX.pure (CE.bipush kB_m101 dX12_part_16 zhd)) dX12_part_18) zhd)
  (CS.seq 51 (CS.if1 (T := 48) (F := 51) (CD.pure (CC.not (CC.if_ne_T (T := 51) (F := 48) (CE.callS (by decide) (CA.int (CE.iload_n rfl dX12_part_19 zhd) (CA.int (CE.iconst kI_0 dX12_part_20 zhd) (CA.int (CE.tern (T := 25) (F := 30) (p1 := 27) (q := 42) (CC.if_eq_F (T := 25) (F := 30) (CE.iload_n rfl dX12_part_21 zhd) dX12_part_22 rfl rfl) (CE.bipush kB_6 dX12_part_25 zhd) zex2 dX12_part_27 rfl zhd (CE.tern (T := 35) (F := 41) (p1 := 38) (q := 42) (CC.icmp_eq_F (T := 35) (F := 41) (CE.iload_n rfl dX12_part_30 zhd) (CE.iconst kI_1 dX12_part_31 zhd) dX12_part_32 rfl rfl) (CE.sipush kS_999 dX12_part_35 zhd) zex2 dX12_part_38 rfl zhd (CE.iconst kI_3 dX12_part_41 zhd))) CA.nil))) zi_135 cs_X12_142 (fun _ => rfl) dX12_part_42 zhd) dX12_part_45 rfl rfl))) (CS.retI (CX.pure (CE.bipush kB_m102 dX12_part_48 zhd)) dX12_part_50) zhd)
  (CS.seq 66 (CS.if1 (T := 63) (F := 66) (CD.pure (CC.and (CC.if_eq_F (T := 55) (F := 66) (CE.iload_n rfl dX12_part_51 zhd) dX12_part_52 rfl rfl) (CC.if_ne_F (T := 63) (F := 66) (CE.callV (by decide) (CA.ref (CE.aload_n rfl dX12_part_55 zhd) (CA.int (CE.iload_n rfl dX12_part_56 zhd) CA.nil)) zi_138 cv_X12_154 (fun _ => rfl) dX12_part_57 zhd) dX12_part_60 rfl rfl))) (CS.retI (CX.pure (CE.bipush kB_m103 dX12_part_63 zhd)) dX12_part_65) zhd)
  (CS.seq 101 (CS.decI (CX.pure (CE.tern (T := 70) (F := 79) (p1 := 76) (q := 99) (CC.if_eq_F (T := 70) (F := 79) (CE.iload_n rfl dX12_part_66 zhd) dX12_part_67 rfl rfl) (CE.aldI (CE.getR (CE.aload_n rfl dX12_part_70 zhd) fs_X12_7 dX12_part_71 zhd) (CE.iload_n rfl dX12_part_74 zhd) (Or.inl ⟨rfl, dX12_part_75⟩) zhd) zex2 dX12_part_76 rfl zhd (CE.tern (T := 84) (F := 93) (p1 := 90) (q := 99) (CC.icmp_eq_F (T := 84) (F := 93) (CE.iload_n rfl dX12_part_79 zhd) (CE.iconst kI_1 dX12_part_80 zhd) dX12_part_81 rfl rfl) (CE.aldI (CE.getR (CE.aload_n rfl dX12_part_84 zhd) fs_X12_13 dX12_part_85 zhd) (CE.iload_n rfl dX12_part_88 zhd) (Or.inl ⟨rfl, dX12_part_89⟩) zhd) zex2 dX12_part_90 rfl zhd (CE.aldI (CE.getR (CE.aload_n rfl dX12_part_93 zhd) fs_X12_16 dX12_part_94 zhd) (CE.iload_n rfl dX12_part_97 zhd) (Or.inl ⟨rfl, dX12_part_98⟩) zhd)))) (by decide) dX12_part_99 zhd)
  (CS.seq 121 (CS.st (CE.getR (CE.aload_n rfl dX12_part_101 zhd) fs_X12_7 dX12_part_102 zhd) (CX.pure (CE.iload_n rfl dX12_part_105 zhd)) (CX.pure (CE.tern (T := 110) (F := 114) (p1 := 111) (q := 120) (CC.if_eq_F (T := 110) (F := 114) (CE.iload_n rfl dX12_part_106 zhd) dX12_part_107 rfl rfl) (CE.iload_n rfl dX12_part_110 zhd) zex2 dX12_part_111 rfl zhd (CE.aldI (CE.getR (CE.aload_n rfl dX12_part_114 zhd) fs_X12_7 dX12_part_115 zhd) (CE.iload_n rfl dX12_part_118 zhd) (Or.inl ⟨rfl, dX12_part_119⟩) zhd))) (Or.inl ⟨rfl, dX12_part_120⟩) zhd)
  (CS.seq 142 (CS.st (CE.getR (CE.aload_n rfl dX12_part_121 zhd) fs_X12_13 dX12_part_122 zhd) (CX.pure (CE.iload_n rfl dX12_part_125 zhd)) (CX.pure (CE.tern (T := 131) (F := 135) (p1 := 132) (q := 141) (CC.icmp_eq_F (T := 131) (F := 135) (CE.iload_n rfl dX12_part_126 zhd) (CE.iconst kI_1 dX12_part_127 zhd) dX12_part_128 rfl rfl) (CE.iload_n rfl dX12_part_131 zhd) zex2 dX12_part_132 rfl zhd (CE.aldI (CE.getR (CE.aload_n rfl dX12_part_135 zhd) fs_X12_13 dX12_part_136 zhd) (CE.iload_n rfl dX12_part_139 zhd) (Or.inl ⟨rfl, dX12_part_140⟩) zhd))) (Or.inl ⟨rfl, dX12_part_141⟩) zhd)
  (CS.seq 163 (CS.st (CE.getR (CE.aload_n rfl dX12_part_142 zhd) fs_X12_16 dX12_part_143 zhd) (CX.pure (CE.iload_n rfl dX12_part_146 zhd)) (CX.pure (CE.tern (T := 152) (F := 156) (p1 := 153) (q := 162) (CC.icmp_eq_F (T := 152) (F := 156) (CE.iload_n rfl dX12_part_147 zhd) (CE.iconst kI_2 dX12_part_148 zhd) dX12_part_149 rfl rfl) (CE.iload_n rfl dX12_part_152 zhd) zex2 dX12_part_153 rfl zhd (CE.aldI (CE.getR (CE.aload_n rfl dX12_part_156 zhd) fs_X12_16 dX12_part_157 zhd) (CE.iload_n rfl dX12_part_160 zhd) (Or.inl ⟨rfl, dX12_part_161⟩) zhd))) (Or.inl ⟨rfl, dX12_part_162⟩) zhd)
  (CS.retI (CX.pure (CE.iload dX12_part_163 zhd)) dX12_part_165))))))))
theorem dX12_as_0 : decode cX12_as 0 = .ok (.iload_n 1, 1) := by decide +kernel
theorem dX12_as_1 : decode cX12_as 1 = .ok (.invokestatic 150, 3) := by decide +kernel
theorem dX12_as_4 : decode cX12_as 4 = .ok (.ifCond .ne 6, 3) := by decide +kernel
theorem dX12_as_7 : decode cX12_as 7 = .ok (.bipush (-101), 2) := by decide +kernel
theorem dX12_as_9 : decode cX12_as 9 = .ok (.ireturn, 1) := by decide +kernel
theorem dX12_as_10 : decode cX12_as 10 = .ok (.iload_n 2, 1) := by decide +kernel
theorem dX12_as_11 : decode cX12_as 11 = .ok (.iconst 0, 1) := by decide +kernel
theorem dX12_as_12 : decode cX12_as 12 = .ok (.bipush 6, 2) := by decide +kernel
theorem dX12_as_14 : decode cX12_as 14 = .ok (.invokestatic 142, 3) := by decide +kernel
theorem dX12_as_17 : decode cX12_as 17 = .ok (.ifCond .ne 6, 3) := by decide +kernel
theorem dX12_as_20 : decode cX12_as 20 = .ok (.bipush (-102), 2) := by decide +kernel
theorem dX12_as_22 : decode cX12_as 22 = .ok (.ireturn, 1) := by decide +kernel
theorem dX12_as_23 : decode cX12_as 23 = .ok (.iload_n 2, 1) := by decide +kernel
theorem dX12_as_24 : decode cX12_as 24 = .ok (.ifCond .eq 29, 3) := by decide +kernel
theorem dX12_as_27 : decode cX12_as 27 = .ok (.aload_n 0, 1) := by decide +kernel
theorem dX12_as_28 : decode cX12_as 28 = .ok (.getfield 7, 3) := by decide +kernel
theorem dX12_as_31 : decode cX12_as 31 = .ok (.iload_n 1, 1) := by decide +kernel
theorem dX12_as_32 : decode cX12_as 32 = .ok (.iaload, 1) := by decide +kernel
theorem dX12_as_33 : decode cX12_as 33 = .ok (.iload_n 2, 1) := by decide +kernel
theorem dX12_as_34 : decode cX12_as 34 = .ok (.if_icmp .eq 19, 3) := by decide +kernel
theorem dX12_as_37 : decode cX12_as 37 = .ok (.iload_n 2, 1) := by decide +kernel
theorem dX12_as_38 : decode cX12_as 38 = .ok (.iconst 1, 1) := by decide +kernel
theorem dX12_as_39 : decode cX12_as 39 = .ok (.if_icmp .ne 18, 3) := by decide +kernel
theorem dX12_as_42 : decode cX12_as 42 = .ok (.aload_n 0, 1) := by decide +kernel
theorem dX12_as_43 : decode cX12_as 43 = .ok (.getfield 7, 3) := by decide +kernel
theorem dX12_as_46 : decode cX12_as 46 = .ok (.iload_n 1, 1) := by decide +kernel
theorem dX12_as_47 : decode cX12_as 47 = .ok (.iaload, 1) := by decide +kernel
theorem dX12_as_48 : decode cX12_as 48 = .ok (.bipush 6, 2) := by decide +kernel
theorem dX12_as_50 : decode cX12_as 50 = .ok (.if_icmp .ne 7, 3) := by decide +kernel
theorem dX12_as_53 : decode cX12_as 53 = .ok (.iload_n 1, 1) := by decide +kernel
theorem dX12_as_54 : decode cX12_as 54 = .ok (.goto 4, 3) := by decide +kernel
theorem dX12_as_57 : decode cX12_as 57 = .ok (.iconst (-1), 1) := by decide +kernel
theorem dX12_as_58 : decode cX12_as 58 = .ok (.ireturn, 1) := by decide +kernel
theorem cd_140 (G : ZG) (d : Nat) (K : ZKt) (F : ZFt) (hT : zt5 G.2.2.2) : CS G RX12 cX12_as 3 d K (some .int) [] (fun _ => []) 0 (bd_140 G.2.2.2 K F) := by
  unfold bd_140
  exact (CS.seq 10 (CS.if1 (T := 7) (F := 10) (CD.pure (CC.not (CC.if_ne_T (T := 10) (F := 7) (CE.callS (by decide) (CA.int (CE.iload_n rfl dX12_as_0 zhd) CA.nil) zi_136 cs_X12_150 (fun _ => rfl) dX12_as_1 zhd) dX12_as_4 rfl rfl))) (CS.retI (CX.pure (CE.bipush kB_m101 dX12_as_7 zhd)) dX12_as_9) zhd)
  (CS.seq 23 (CS.if1 (T := 20) (F := 23) (CD.pure (CC.not (CC.if_ne_T (T := 23) (F := 20) (CE.callS (by decide) (CA.int (CE.iload_n rfl dX12_as_10 zhd) (CA.int (CE.iconst kI_0 dX12_as_11 zhd) (CA.int (CE.bipush kB_6 dX12_as_12 zhd) CA.nil))) zi_135 cs_X12_142 (fun _ => rfl) dX12_as_14 zhd) dX12_as_17 rfl rfl))) (CS.retI (CX.pure (CE.bipush kB_m102 dX12_as_20 zhd)) dX12_as_22) zhd)
  (CS.retI (CX.pure (CE.tern (T := 53) (F := 57) (p1 := 54) (q := 58) (CC.or (CC.or (CC.if_eq_T (T := 53) (F := 27) (CE.iload_n rfl dX12_as_23 zhd) dX12_as_24 rfl rfl) (CC.icmp_eq_T (T := 53) (F := 37) (CE.aldI (CE.getR (CE.aload_n rfl dX12_as_27 zhd) fs_X12_7 dX12_as_28 zhd) (CE.iload_n rfl dX12_as_31 zhd) (Or.inl ⟨rfl, dX12_as_32⟩) zhd) (CE.iload_n rfl dX12_as_33 zhd) dX12_as_34 rfl rfl)) (CC.and (CC.icmp_eq_F (T := 42) (F := 57) (CE.iload_n rfl dX12_as_37 zhd) (CE.iconst kI_1 dX12_as_38 zhd) dX12_as_39 rfl rfl) (CC.icmp_eq_F (T := 53) (F := 57) (CE.aldI (CE.getR (CE.aload_n rfl dX12_as_42 zhd) fs_X12_7 dX12_as_43 zhd) (CE.iload_n rfl dX12_as_46 zhd) (Or.inl ⟨rfl, dX12_as_47⟩) zhd) (CE.bipush kB_6 dX12_as_48 zhd) dX12_as_50 rfl rfl))) (CE.iload_n rfl dX12_as_53 zhd) zex2 dX12_as_54 rfl zhd (CE.iconst kI_m1 dX12_as_57 zhd))) dX12_as_58)))
theorem dX12_sizeOf_0 : decode cX12_sizeOf 0 = .ok (.aload_n 0, 1) := by decide +kernel
theorem dX12_sizeOf_1 : decode cX12_sizeOf 1 = .ok (.getfield 13, 3) := by decide +kernel
theorem dX12_sizeOf_4 : decode cX12_sizeOf 4 = .ok (.iload_n 1, 1) := by decide +kernel
theorem dX12_sizeOf_5 : decode cX12_sizeOf 5 = .ok (.iaload, 1) := by decide +kernel
theorem dX12_sizeOf_6 : decode cX12_sizeOf 6 = .ok (.istore_n 2, 1) := by decide +kernel
theorem dX12_sizeOf_7 : decode cX12_sizeOf 7 = .ok (.aload_n 0, 1) := by decide +kernel
theorem dX12_sizeOf_8 : decode cX12_sizeOf 8 = .ok (.getfield 7, 3) := by decide +kernel
theorem dX12_sizeOf_11 : decode cX12_sizeOf 11 = .ok (.iload_n 1, 1) := by decide +kernel
theorem dX12_sizeOf_12 : decode cX12_sizeOf 12 = .ok (.iaload, 1) := by decide +kernel
theorem dX12_sizeOf_13 : decode cX12_sizeOf 13 = .ok (.tableswitch 50 1 5 #[35, 50, 39, 50, 46], 35) := by decide +kernel
theorem dX12_sizeOf_48 : decode cX12_sizeOf 48 = .ok (.iload_n 2, 1) := by decide +kernel
theorem dX12_sizeOf_49 : decode cX12_sizeOf 49 = .ok (.iconst 1, 1) := by decide +kernel
theorem dX12_sizeOf_50 : decode cX12_sizeOf 50 = .ok (.isub, 1) := by decide +kernel
theorem dX12_sizeOf_51 : decode cX12_sizeOf 51 = .ok (.ireturn, 1) := by decide +kernel
theorem dX12_sizeOf_52 : decode cX12_sizeOf 52 = .ok (.iload_n 2, 1) := by decide +kernel
theorem dX12_sizeOf_53 : decode cX12_sizeOf 53 = .ok (.iload_n 2, 1) := by decide +kernel
theorem dX12_sizeOf_54 : decode cX12_sizeOf 54 = .ok (.bipush 50, 2) := by decide +kernel
theorem dX12_sizeOf_56 : decode cX12_sizeOf 56 = .ok (.idiv, 1) := by decide +kernel
theorem dX12_sizeOf_57 : decode cX12_sizeOf 57 = .ok (.isub, 1) := by decide +kernel
theorem dX12_sizeOf_58 : decode cX12_sizeOf 58 = .ok (.ireturn, 1) := by decide +kernel
theorem dX12_sizeOf_59 : decode cX12_sizeOf 59 = .ok (.iload_n 2, 1) := by decide +kernel
theorem dX12_sizeOf_60 : decode cX12_sizeOf 60 = .ok (.iconst 2, 1) := by decide +kernel
theorem dX12_sizeOf_61 : decode cX12_sizeOf 61 = .ok (.iadd, 1) := by decide +kernel
theorem dX12_sizeOf_62 : decode cX12_sizeOf 62 = .ok (.ireturn, 1) := by decide +kernel
theorem dX12_sizeOf_63 : decode cX12_sizeOf 63 = .ok (.iload_n 2, 1) := by decide +kernel
theorem dX12_sizeOf_64 : decode cX12_sizeOf 64 = .ok (.ireturn, 1) := by decide +kernel
theorem cd_141 (G : ZG) (d : Nat) (K : ZKt) (F : ZFt) (hT : zt5 G.2.2.2) : CS G RX12 cX12_sizeOf 3 d K (some .int) [] (fun _ => []) 0 (bd_141 G.2.2.2 K F) := by
  unfold bd_141
  exact (CS.seq 7 (CS.decI_n (CX.pure (CE.aldI (CE.getR (CE.aload_n rfl dX12_sizeOf_0 zhd) fs_X12_13 dX12_sizeOf_1 zhd) (CE.iload_n rfl dX12_sizeOf_4 zhd) (Or.inl ⟨rfl, dX12_sizeOf_5⟩) zhd)) rfl (by decide) dX12_sizeOf_6 zhd)
  (CS.sw (qd := 63) (CX.pure (CE.aldI (CE.getR (CE.aload_n rfl dX12_sizeOf_7 zhd) fs_X12_7 dX12_sizeOf_8 zhd) (CE.iload_n rfl dX12_sizeOf_11 zhd) (Or.inl ⟨rfl, dX12_sizeOf_12⟩) zhd)) dX12_sizeOf_13 rfl ⟨by decide, ⟨_, 48, rfl, rfl, (CS.retI (CX.pure (CE.isub (CE.iload_n rfl dX12_sizeOf_48 zhd) (CE.iconst kI_1 dX12_sizeOf_49 zhd) dX12_sizeOf_50 zhd)) dX12_sizeOf_51)⟩, ⟨by decide, ⟨_, 63, rfl, rfl, (CS.retI (CX.pure (CE.iload_n rfl dX12_sizeOf_63 zhd)) dX12_sizeOf_64)⟩, ⟨by decide, ⟨_, 52, rfl, rfl, (CS.retI (CX.pure (CE.isub (CE.iload_n rfl dX12_sizeOf_52 zhd) (CE.idiv (CE.iload_n rfl dX12_sizeOf_53 zhd) (CE.bipush kB_50 dX12_sizeOf_54 zhd) dX12_sizeOf_56 zhd) dX12_sizeOf_57 zhd)) dX12_sizeOf_58)⟩, ⟨by decide, ⟨_, 63, rfl, rfl, (CS.retI (CX.pure (CE.iload_n rfl dX12_sizeOf_63 zhd)) dX12_sizeOf_64)⟩, ⟨by decide, ⟨_, 59, rfl, rfl, (CS.retI (CX.pure (CE.iadd (CE.iload_n rfl dX12_sizeOf_59 zhd) (CE.iconst kI_2 dX12_sizeOf_60 zhd) dX12_sizeOf_61 zhd)) dX12_sizeOf_62)⟩, trivial⟩⟩⟩⟩⟩ rfl (CS.retI (CX.pure (CE.iload_n rfl dX12_sizeOf_63 zhd)) dX12_sizeOf_64)))
theorem dX12_size_0 : decode cX12_size 0 = .ok (.iload_n 1, 1) := by decide +kernel
theorem dX12_size_1 : decode cX12_size 1 = .ok (.invokestatic 150, 3) := by decide +kernel
theorem dX12_size_4 : decode cX12_size 4 = .ok (.ifCond .eq 11, 3) := by decide +kernel
theorem dX12_size_7 : decode cX12_size 7 = .ok (.aload_n 0, 1) := by decide +kernel
theorem dX12_size_8 : decode cX12_size 8 = .ok (.iload_n 1, 1) := by decide +kernel
theorem dX12_size_9 : decode cX12_size 9 = .ok (.invokevirtual 157, 3) := by decide +kernel
theorem dX12_size_12 : decode cX12_size 12 = .ok (.goto 5, 3) := by decide +kernel
theorem dX12_size_15 : decode cX12_size 15 = .ok (.bipush (-101), 2) := by decide +kernel
theorem dX12_size_17 : decode cX12_size 17 = .ok (.ireturn, 1) := by decide +kernel
theorem cd_142 (G : ZG) (d : Nat) (K : ZKt) (F : ZFt) (hT : zt5 G.2.2.2) : CS G RX12 cX12_size 2 d K (some .int) [] (fun _ => []) 0 (bd_142 G.2.2.2 K F) := by
  unfold bd_142
  exact (CS.retI (CX.pure (CE.tern (T := 7) (F := 15) (p1 := 12) (q := 17) (CC.if_ne_F (T := 7) (F := 15) (CE.callS (by decide) (CA.int (CE.iload_n rfl dX12_size_0 zhd) CA.nil) zi_136 cs_X12_150 (fun _ => rfl) dX12_size_1 zhd) dX12_size_4 rfl rfl) (CE.callV (by decide) (CA.ref (CE.aload_n rfl dX12_size_7 zhd) (CA.int (CE.iload_n rfl dX12_size_8 zhd) CA.nil)) zi_141 cv_X12_157 (fun _ => rfl) dX12_size_9 zhd) zex2 dX12_size_12 rfl zhd (CE.bipush kB_m101 dX12_size_15 zhd))) dX12_size_17)
theorem dX12_isGrade_0 : decode cX12_isGrade 0 = .ok (.iload_n 0, 1) := by decide +kernel
theorem dX12_isGrade_1 : decode cX12_isGrade 1 = .ok (.iconst 0, 1) := by decide +kernel
theorem dX12_isGrade_2 : decode cX12_isGrade 2 = .ok (.iconst 3, 1) := by decide +kernel
theorem dX12_isGrade_3 : decode cX12_isGrade 3 = .ok (.invokestatic 142, 3) := by decide +kernel
theorem dX12_isGrade_6 : decode cX12_isGrade 6 = .ok (.ireturn, 1) := by decide +kernel
theorem cd_143 (G : ZG) (d : Nat) (K : ZKt) (F : ZFt) (hT : zt5 G.2.2.2) : CS G RX12 cX12_isGrade 1 d K (some .boolean) [] (fun _ => []) 0 (bd_143 G.2.2.2 K F) := by
  unfold bd_143
  exact (CS.retZ (CX.pure (CE.callS (by decide) (CA.int (CE.iload_n rfl dX12_isGrade_0 zhd) (CA.int (CE.iconst kI_0 dX12_isGrade_1 zhd) (CA.int (CE.iconst kI_3 dX12_isGrade_2 zhd) CA.nil))) zi_135 cs_X12_142 (fun _ => rfl) dX12_isGrade_3 zhd)) dX12_isGrade_6)
theorem dX12_grade_0 : decode cX12_grade 0 = .ok (.iload_n 1, 1) := by decide +kernel
theorem dX12_grade_1 : decode cX12_grade 1 = .ok (.invokestatic 161, 3) := by decide +kernel
theorem dX12_grade_4 : decode cX12_grade 4 = .ok (.ifCond .eq 12, 3) := by decide +kernel
theorem dX12_grade_7 : decode cX12_grade 7 = .ok (.iload_n 2, 1) := by decide +kernel
theorem dX12_grade_8 : decode cX12_grade 8 = .ok (.iconst 0, 1) := by decide +kernel
theorem dX12_grade_9 : decode cX12_grade 9 = .ok (.iconst 1, 1) := by decide +kernel
theorem dX12_grade_10 : decode cX12_grade 10 = .ok (.invokestatic 142, 3) := by decide +kernel
theorem dX12_grade_13 : decode cX12_grade 13 = .ok (.ifCond .ne 6, 3) := by decide +kernel
theorem dX12_grade_16 : decode cX12_grade 16 = .ok (.bipush (-101), 2) := by decide +kernel
theorem dX12_grade_18 : decode cX12_grade 18 = .ok (.ireturn, 1) := by decide +kernel
theorem dX12_grade_19 : decode cX12_grade 19 = .ok (.iload_n 3, 1) := by decide +kernel
theorem dX12_grade_20 : decode cX12_grade 20 = .ok (.iconst 0, 1) := by decide +kernel
theorem dX12_grade_21 : decode cX12_grade 21 = .ok (.iload_n 2, 1) := by decide +kernel
theorem dX12_grade_22 : decode cX12_grade 22 = .ok (.ifCond .ne 8, 3) := by decide +kernel
theorem dX12_grade_25 : decode cX12_grade 25 = .ok (.bipush 99, 2) := by decide +kernel
theorem dX12_grade_27 : decode cX12_grade 27 = .ok (.goto 6, 3) := by decide +kernel
theorem dX12_grade_30 : decode cX12_grade 30 = .ok (.sipush 999, 3) := by decide +kernel
theorem dX12_grade_33 : decode cX12_grade 33 = .ok (.invokestatic 142, 3) := by decide +kernel
theorem dX12_grade_36 : decode cX12_grade 36 = .ok (.ifCond .ne 6, 3) := by decide +kernel
theorem dX12_grade_39 : decode cX12_grade 39 = .ok (.bipush (-102), 2) := by decide +kernel
theorem dX12_grade_41 : decode cX12_grade 41 = .ok (.ireturn, 1) := by decide +kernel
theorem dX12_grade_42 : decode cX12_grade 42 = .ok (.iload_n 2, 1) := by decide +kernel
theorem dX12_grade_43 : decode cX12_grade 43 = .ok (.ifCond .ne 12, 3) := by decide +kernel
theorem dX12_grade_46 : decode cX12_grade 46 = .ok (.aload_n 0, 1) := by decide +kernel
theorem dX12_grade_47 : decode cX12_grade 47 = .ok (.getfield 19, 3) := by decide +kernel
theorem dX12_grade_50 : decode cX12_grade 50 = .ok (.iload_n 1, 1) := by decide +kernel
theorem dX12_grade_51 : decode cX12_grade 51 = .ok (.iaload, 1) := by decide +kernel
theorem dX12_grade_52 : decode cX12_grade 52 = .ok (.goto 9, 3) := by decide +kernel
theorem dX12_grade_55 : decode cX12_grade 55 = .ok (.aload_n 0, 1) := by decide +kernel
theorem dX12_grade_56 : decode cX12_grade 56 = .ok (.getfield 22, 3) := by decide +kernel
theorem dX12_grade_59 : decode cX12_grade 59 = .ok (.iload_n 1, 1) := by decide +kernel
theorem dX12_grade_60 : decode cX12_grade 60 = .ok (.iaload, 1) := by decide +kernel
theorem dX12_grade_61 : decode cX12_grade 61 = .ok (.istore 4, 2) := by decide +kernel
theorem dX12_grade_63 : decode cX12_grade 63 = .ok (.aload_n 0, 1) := by decide +kernel
theorem dX12_grade_64 : decode cX12_grade 64 = .ok (.getfield 19, 3) := by decide +kernel
theorem dX12_grade_67 : decode cX12_grade 67 = .ok (.iload_n 1, 1) := by decide +kernel
theorem dX12_grade_68 : decode cX12_grade 68 = .ok (.iload_n 2, 1) := by decide +kernel
theorem dX12_grade_69 : decode cX12_grade 69 = .ok (.ifCond .ne 7, 3) := by decide +kernel
theorem dX12_grade_72 : decode cX12_grade 72 = .ok (.iload_n 3, 1) := by decide +kernel
theorem dX12_grade_73 : decode cX12_grade 73 = .ok (.goto 9, 3) := by decide +kernel
theorem dX12_grade_76 : decode cX12_grade 76 = .ok (.aload_n 0, 1) := by decide +kernel
theorem dX12_grade_77 : decode cX12_grade 77 = .ok (.getfield 19, 3) := by decide +kernel
theorem dX12_grade_80 : decode cX12_grade 80 = .ok (.iload_n 1, 1) := by decide +kernel
theorem dX12_grade_81 : decode cX12_grade 81 = .ok (.iaload, 1) := by decide +kernel
theorem dX12_grade_82 : decode cX12_grade 82 = .ok (.iastore, 1) := by decide +kernel
theorem dX12_grade_83 : decode cX12_grade 83 = .ok (.aload_n 0, 1) := by decide +kernel
theorem dX12_grade_84 : decode cX12_grade 84 = .ok (.getfield 22, 3) := by decide +kernel
theorem dX12_grade_87 : decode cX12_grade 87 = .ok (.iload_n 1, 1) := by decide +kernel
theorem dX12_grade_88 : decode cX12_grade 88 = .ok (.iload_n 2, 1) := by decide +kernel
theorem dX12_grade_89 : decode cX12_grade 89 = .ok (.iconst 1, 1) := by decide +kernel
theorem dX12_grade_90 : decode cX12_grade 90 = .ok (.if_icmp .ne 7, 3) := by decide +kernel
theorem dX12_grade_93 : decode cX12_grade 93 = .ok (.iload_n 3, 1) := by decide +kernel
theorem dX12_grade_94 : decode cX12_grade 94 = .ok (.goto 9, 3) := by decide +kernel
theorem dX12_grade_97 : decode cX12_grade 97 = .ok (.aload_n 0, 1) := by decide +kernel
theorem dX12_grade_98 : decode cX12_grade 98 = .ok (.getfield 22, 3) := by decide +kernel
theorem dX12_grade_101 : decode cX12_grade 101 = .ok (.iload_n 1, 1) := by decide +kernel
theorem dX12_grade_102 : decode cX12_grade 102 = .ok (.iaload, 1) := by decide +kernel
theorem dX12_grade_103 : decode cX12_grade 103 = .ok (.iastore, 1) := by decide +kernel
theorem dX12_grade_104 : decode cX12_grade 104 = .ok (.iload 4, 2) := by decide +kernel
theorem dX12_grade_106 : decode cX12_grade 106 = .ok (.ireturn, 1) := by decide +kernel
theorem cd_144 (G : ZG) (d : Nat) (K : ZKt) (F : ZFt) (hT : zt5 G.2.2.2) : CS G RX12 cX12_grade 5 d K (some .int) [] (fun _ => []) 0 (bd_144 G.2.2.2 K F) := by
  unfold bd_144
  exact (CS.seq 19 (CS.if1 (T := 16) (F := 19) (CD.pure (CC.or (CC.not (CC.if_ne_F (T := 7) (F := 16) (CE.callS (by decide) (CA.int (CE.iload_n rfl dX12_grade_0 zhd) CA.nil) zi_143 cs_X12_161 (fun _ => rfl) dX12_grade_1 zhd) dX12_grade_4 rfl rfl)) (CC.not (CC.if_ne_T (T := 19) (F := 16) (CE.callS (by decide) (CA.int (CE.iload_n rfl dX12_grade_7 zhd) (CA.int (CE.iconst kI_0 dX12_grade_8 zhd) (CA.int (CE.iconst kI_1 dX12_grade_9 zhd) CA.nil))) zi_135 cs_X12_142 (fun _ => rfl) dX12_grade_10 zhd) dX12_grade_13 rfl rfl)))) (CS.retI (CX.pure (CE.bipush kB_m101 dX12_grade_16 zhd)) dX12_grade_18) zhd)
  (CS.seq 42 (CS.if1 (T := 39) (F := 42) (CD.pure (CC.not (CC.if_ne_T (T := 42) (F := 39) (CE.callS (by decide) (CA.int (CE.iload_n rfl dX12_grade_19 zhd) (CA.int (CE.iconst kI_0 dX12_grade_20 zhd) (CA.int (CE.tern (T := 25) (F := 30) (p1 := 27) (q := 33) (CC.if_eq_F (T := 25) (F := 30) (CE.iload_n rfl dX12_grade_21 zhd) dX12_grade_22 rfl rfl) (CE.bipush kB_99 dX12_grade_25 zhd) zex2 dX12_grade_27 rfl zhd (CE.sipush kS_999 dX12_grade_30 zhd)) CA.nil))) zi_135 cs_X12_142 (fun _ => rfl) dX12_grade_33 zhd) dX12_grade_36 rfl rfl))) (CS.retI (CX.pure (CE.bipush kB_m102 dX12_grade_39 zhd)) dX12_grade_41) zhd)
  (CS.seq 63 (CS.decI (CX.pure (CE.tern (T := 46) (F := 55) (p1 := 52) (q := 61) (CC.if_eq_F (T := 46) (F := 55) (CE.iload_n rfl dX12_grade_42 zhd) dX12_grade_43 rfl rfl) (CE.aldI (CE.getR (CE.aload_n rfl dX12_grade_46 zhd) fs_X12_19 dX12_grade_47 zhd) (CE.iload_n rfl dX12_grade_50 zhd) (Or.inl ⟨rfl, dX12_grade_51⟩) zhd) zex2 dX12_grade_52 rfl zhd (CE.aldI (CE.getR (CE.aload_n rfl dX12_grade_55 zhd) fs_X12_22 dX12_grade_56 zhd) (CE.iload_n rfl dX12_grade_59 zhd) (Or.inl ⟨rfl, dX12_grade_60⟩) zhd))) (by decide) dX12_grade_61 zhd)
  (CS.seq 83 (CS.st (CE.getR (CE.aload_n rfl dX12_grade_63 zhd) fs_X12_19 dX12_grade_64 zhd) (CX.pure (CE.iload_n rfl dX12_grade_67 zhd)) (CX.pure (CE.tern (T := 72) (F := 76) (p1 := 73) (q := 82) (CC.if_eq_F (T := 72) (F := 76) (CE.iload_n rfl dX12_grade_68 zhd) dX12_grade_69 rfl rfl) (CE.iload_n rfl dX12_grade_72 zhd) zex2 dX12_grade_73 rfl zhd (CE.aldI (CE.getR (CE.aload_n rfl dX12_grade_76 zhd) fs_X12_19 dX12_grade_77 zhd) (CE.iload_n rfl dX12_grade_80 zhd) (Or.inl ⟨rfl, dX12_grade_81⟩) zhd))) (Or.inl ⟨rfl, dX12_grade_82⟩) zhd)
  (CS.seq 104 (CS.st (CE.getR (CE.aload_n rfl dX12_grade_83 zhd) fs_X12_22 dX12_grade_84 zhd) (CX.pure (CE.iload_n rfl dX12_grade_87 zhd)) (CX.pure (CE.tern (T := 93) (F := 97) (p1 := 94) (q := 103) (CC.icmp_eq_F (T := 93) (F := 97) (CE.iload_n rfl dX12_grade_88 zhd) (CE.iconst kI_1 dX12_grade_89 zhd) dX12_grade_90 rfl rfl) (CE.iload_n rfl dX12_grade_93 zhd) zex2 dX12_grade_94 rfl zhd (CE.aldI (CE.getR (CE.aload_n rfl dX12_grade_97 zhd) fs_X12_22 dX12_grade_98 zhd) (CE.iload_n rfl dX12_grade_101 zhd) (Or.inl ⟨rfl, dX12_grade_102⟩) zhd))) (Or.inl ⟨rfl, dX12_grade_103⟩) zhd)
  (CS.retI (CX.pure (CE.iload dX12_grade_104 zhd)) dX12_grade_106))))))
theorem dX12_priceOf_0 : decode cX12_priceOf 0 = .ok (.aload_n 0, 1) := by decide +kernel
theorem dX12_priceOf_1 : decode cX12_priceOf 1 = .ok (.getfield 22, 3) := by decide +kernel
theorem dX12_priceOf_4 : decode cX12_priceOf 4 = .ok (.iload_n 2, 1) := by decide +kernel
theorem dX12_priceOf_5 : decode cX12_priceOf 5 = .ok (.iaload, 1) := by decide +kernel
theorem dX12_priceOf_6 : decode cX12_priceOf 6 = .ok (.istore_n 3, 1) := by decide +kernel
theorem dX12_priceOf_7 : decode cX12_priceOf 7 = .ok (.aload_n 0, 1) := by decide +kernel
theorem dX12_priceOf_8 : decode cX12_priceOf 8 = .ok (.getfield 7, 3) := by decide +kernel
theorem dX12_priceOf_11 : decode cX12_priceOf 11 = .ok (.iload_n 1, 1) := by decide +kernel
theorem dX12_priceOf_12 : decode cX12_priceOf 12 = .ok (.iaload, 1) := by decide +kernel
theorem dX12_priceOf_13 : decode cX12_priceOf 13 = .ok (.tableswitch 66 1 6 #[39, 43, 47, 51, 55, 60], 39) := by decide +kernel
theorem dX12_priceOf_52 : decode cX12_priceOf 52 = .ok (.iconst 2, 1) := by decide +kernel
theorem dX12_priceOf_53 : decode cX12_priceOf 53 = .ok (.iload_n 3, 1) := by decide +kernel
theorem dX12_priceOf_54 : decode cX12_priceOf 54 = .ok (.imul, 1) := by decide +kernel
theorem dX12_priceOf_55 : decode cX12_priceOf 55 = .ok (.ireturn, 1) := by decide +kernel
theorem dX12_priceOf_56 : decode cX12_priceOf 56 = .ok (.iload_n 3, 1) := by decide +kernel
theorem dX12_priceOf_57 : decode cX12_priceOf 57 = .ok (.iconst 3, 1) := by decide +kernel
theorem dX12_priceOf_58 : decode cX12_priceOf 58 = .ok (.iadd, 1) := by decide +kernel
theorem dX12_priceOf_59 : decode cX12_priceOf 59 = .ok (.ireturn, 1) := by decide +kernel
theorem dX12_priceOf_60 : decode cX12_priceOf 60 = .ok (.iconst 3, 1) := by decide +kernel
theorem dX12_priceOf_61 : decode cX12_priceOf 61 = .ok (.iload_n 3, 1) := by decide +kernel
theorem dX12_priceOf_62 : decode cX12_priceOf 62 = .ok (.imul, 1) := by decide +kernel
theorem dX12_priceOf_63 : decode cX12_priceOf 63 = .ok (.ireturn, 1) := by decide +kernel
theorem dX12_priceOf_64 : decode cX12_priceOf 64 = .ok (.iload_n 3, 1) := by decide +kernel
theorem dX12_priceOf_65 : decode cX12_priceOf 65 = .ok (.iconst 2, 1) := by decide +kernel
theorem dX12_priceOf_66 : decode cX12_priceOf 66 = .ok (.idiv, 1) := by decide +kernel
theorem dX12_priceOf_67 : decode cX12_priceOf 67 = .ok (.ireturn, 1) := by decide +kernel
theorem dX12_priceOf_68 : decode cX12_priceOf 68 = .ok (.iload_n 3, 1) := by decide +kernel
theorem dX12_priceOf_69 : decode cX12_priceOf 69 = .ok (.bipush 10, 2) := by decide +kernel
theorem dX12_priceOf_71 : decode cX12_priceOf 71 = .ok (.iadd, 1) := by decide +kernel
theorem dX12_priceOf_72 : decode cX12_priceOf 72 = .ok (.ireturn, 1) := by decide +kernel
theorem dX12_priceOf_73 : decode cX12_priceOf 73 = .ok (.iconst 2, 1) := by decide +kernel
theorem dX12_priceOf_74 : decode cX12_priceOf 74 = .ok (.iload_n 3, 1) := by decide +kernel
theorem dX12_priceOf_75 : decode cX12_priceOf 75 = .ok (.imul, 1) := by decide +kernel
theorem dX12_priceOf_76 : decode cX12_priceOf 76 = .ok (.iconst 1, 1) := by decide +kernel
theorem dX12_priceOf_77 : decode cX12_priceOf 77 = .ok (.iadd, 1) := by decide +kernel
theorem dX12_priceOf_78 : decode cX12_priceOf 78 = .ok (.ireturn, 1) := by decide +kernel
theorem dX12_priceOf_79 : decode cX12_priceOf 79 = .ok (.iload_n 3, 1) := by decide +kernel
theorem dX12_priceOf_80 : decode cX12_priceOf 80 = .ok (.ireturn, 1) := by decide +kernel
theorem cd_145 (G : ZG) (d : Nat) (K : ZKt) (F : ZFt) (hT : zt5 G.2.2.2) : CS G RX12 cX12_priceOf 4 d K (some .int) [] (fun _ => []) 0 (bd_145 G.2.2.2 K F) := by
  unfold bd_145
  exact (CS.seq 7 (CS.decI_n (CX.pure (CE.aldI (CE.getR (CE.aload_n rfl dX12_priceOf_0 zhd) fs_X12_22 dX12_priceOf_1 zhd) (CE.iload_n rfl dX12_priceOf_4 zhd) (Or.inl ⟨rfl, dX12_priceOf_5⟩) zhd)) rfl (by decide) dX12_priceOf_6 zhd)
  (CS.sw (qd := 79) (CX.pure (CE.aldI (CE.getR (CE.aload_n rfl dX12_priceOf_7 zhd) fs_X12_7 dX12_priceOf_8 zhd) (CE.iload_n rfl dX12_priceOf_11 zhd) (Or.inl ⟨rfl, dX12_priceOf_12⟩) zhd)) dX12_priceOf_13 rfl ⟨by decide, ⟨_, 52, rfl, rfl, (CS.retI (CX.pure (CE.imul (CE.iconst kI_2 dX12_priceOf_52 zhd) (CE.iload_n rfl dX12_priceOf_53 zhd) dX12_priceOf_54 zhd)) dX12_priceOf_55)⟩, ⟨by decide, ⟨_, 56, rfl, rfl, (CS.retI (CX.pure (CE.iadd (CE.iload_n rfl dX12_priceOf_56 zhd) (CE.iconst kI_3 dX12_priceOf_57 zhd) dX12_priceOf_58 zhd)) dX12_priceOf_59)⟩, ⟨by decide, ⟨_, 60, rfl, rfl, (CS.retI (CX.pure (CE.imul (CE.iconst kI_3 dX12_priceOf_60 zhd) (CE.iload_n rfl dX12_priceOf_61 zhd) dX12_priceOf_62 zhd)) dX12_priceOf_63)⟩, ⟨by decide, ⟨_, 64, rfl, rfl, (CS.retI (CX.pure (CE.idiv (CE.iload_n rfl dX12_priceOf_64 zhd) (CE.iconst kI_2 dX12_priceOf_65 zhd) dX12_priceOf_66 zhd)) dX12_priceOf_67)⟩, ⟨by decide, ⟨_, 68, rfl, rfl, (CS.retI (CX.pure (CE.iadd (CE.iload_n rfl dX12_priceOf_68 zhd) (CE.bipush kB_10 dX12_priceOf_69 zhd) dX12_priceOf_71 zhd)) dX12_priceOf_72)⟩, ⟨by decide, ⟨_, 73, rfl, rfl, (CS.retI (CX.pure (CE.iadd (CE.imul (CE.iconst kI_2 dX12_priceOf_73 zhd) (CE.iload_n rfl dX12_priceOf_74 zhd) dX12_priceOf_75 zhd) (CE.iconst kI_1 dX12_priceOf_76 zhd) dX12_priceOf_77 zhd)) dX12_priceOf_78)⟩, trivial⟩⟩⟩⟩⟩⟩ rfl (CS.retI (CX.pure (CE.iload_n rfl dX12_priceOf_79 zhd)) dX12_priceOf_80)))
theorem dX12_price_0 : decode cX12_price 0 = .ok (.iload_n 1, 1) := by decide +kernel
theorem dX12_price_1 : decode cX12_price 1 = .ok (.invokestatic 150, 3) := by decide +kernel
theorem dX12_price_4 : decode cX12_price 4 = .ok (.ifCond .eq 19, 3) := by decide +kernel
theorem dX12_price_7 : decode cX12_price 7 = .ok (.iload_n 2, 1) := by decide +kernel
theorem dX12_price_8 : decode cX12_price 8 = .ok (.invokestatic 161, 3) := by decide +kernel
theorem dX12_price_11 : decode cX12_price 11 = .ok (.ifCond .eq 12, 3) := by decide +kernel
theorem dX12_price_14 : decode cX12_price 14 = .ok (.aload_n 0, 1) := by decide +kernel
theorem dX12_price_15 : decode cX12_price 15 = .ok (.iload_n 1, 1) := by decide +kernel
theorem dX12_price_16 : decode cX12_price 16 = .ok (.iload_n 2, 1) := by decide +kernel
theorem dX12_price_17 : decode cX12_price 17 = .ok (.invokevirtual 164, 3) := by decide +kernel
theorem dX12_price_20 : decode cX12_price 20 = .ok (.goto 5, 3) := by decide +kernel
theorem dX12_price_23 : decode cX12_price 23 = .ok (.bipush (-101), 2) := by decide +kernel
theorem dX12_price_25 : decode cX12_price 25 = .ok (.ireturn, 1) := by decide +kernel
theorem cd_146 (G : ZG) (d : Nat) (K : ZKt) (F : ZFt) (hT : zt5 G.2.2.2) : CS G RX12 cX12_price 3 d K (some .int) [] (fun _ => []) 0 (bd_146 G.2.2.2 K F) := by
  unfold bd_146
  exact (CS.retI (CX.pure (CE.tern (T := 14) (F := 23) (p1 := 20) (q := 25) (CC.and (CC.if_ne_F (T := 7) (F := 23) (CE.callS (by decide) (CA.int (CE.iload_n rfl dX12_price_0 zhd) CA.nil) zi_136 cs_X12_150 (fun _ => rfl) dX12_price_1 zhd) dX12_price_4 rfl rfl) (CC.if_ne_F (T := 14) (F := 23) (CE.callS (by decide) (CA.int (CE.iload_n rfl dX12_price_7 zhd) CA.nil) zi_143 cs_X12_161 (fun _ => rfl) dX12_price_8 zhd) dX12_price_11 rfl rfl)) (CE.callV (by decide) (CA.ref (CE.aload_n rfl dX12_price_14 zhd) (CA.int (CE.iload_n rfl dX12_price_15 zhd) (CA.int (CE.iload_n rfl dX12_price_16 zhd) CA.nil))) zi_145 cv_X12_164 (fun _ => rfl) dX12_price_17 zhd) zex2 dX12_price_20 rfl zhd (CE.bipush kB_m101 dX12_price_23 zhd))) dX12_price_25)
theorem dX12_counted_0 : decode cX12_counted 0 = .ok (.iload_n 1, 1) := by decide +kernel
theorem dX12_counted_1 : decode cX12_counted 1 = .ok (.invokestatic 150, 3) := by decide +kernel
theorem dX12_counted_4 : decode cX12_counted 4 = .ok (.ifCond .eq 13, 3) := by decide +kernel
theorem dX12_counted_7 : decode cX12_counted 7 = .ok (.iload_n 2, 1) := by decide +kernel
theorem dX12_counted_8 : decode cX12_counted 8 = .ok (.bipush (-4), 2) := by decide +kernel
theorem dX12_counted_10 : decode cX12_counted 10 = .ok (.iconst 4, 1) := by decide +kernel
theorem dX12_counted_11 : decode cX12_counted 11 = .ok (.invokestatic 142, 3) := by decide +kernel
theorem dX12_counted_14 : decode cX12_counted 14 = .ok (.ifCond .ne 6, 3) := by decide +kernel
theorem dX12_counted_17 : decode cX12_counted 17 = .ok (.bipush (-101), 2) := by decide +kernel
theorem dX12_counted_19 : decode cX12_counted 19 = .ok (.ireturn, 1) := by decide +kernel
theorem dX12_counted_20 : decode cX12_counted 20 = .ok (.iload_n 3, 1) := by decide +kernel
theorem dX12_counted_21 : decode cX12_counted 21 = .ok (.iconst 0, 1) := by decide +kernel
theorem dX12_counted_22 : decode cX12_counted 22 = .ok (.bipush 99, 2) := by decide +kernel
theorem dX12_counted_24 : decode cX12_counted 24 = .ok (.invokestatic 142, 3) := by decide +kernel
theorem dX12_counted_27 : decode cX12_counted 27 = .ok (.ifCond .ne 6, 3) := by decide +kernel
theorem dX12_counted_30 : decode cX12_counted 30 = .ok (.bipush (-102), 2) := by decide +kernel
theorem dX12_counted_32 : decode cX12_counted 32 = .ok (.ireturn, 1) := by decide +kernel
theorem dX12_counted_33 : decode cX12_counted 33 = .ok (.aload_n 0, 1) := by decide +kernel
theorem dX12_counted_34 : decode cX12_counted 34 = .ok (.getfield 25, 3) := by decide +kernel
theorem dX12_counted_37 : decode cX12_counted 37 = .ok (.bipush 9, 2) := by decide +kernel
theorem dX12_counted_39 : decode cX12_counted 39 = .ok (.iload_n 1, 1) := by decide +kernel
theorem dX12_counted_40 : decode cX12_counted 40 = .ok (.imul, 1) := by decide +kernel
theorem dX12_counted_41 : decode cX12_counted 41 = .ok (.iconst 4, 1) := by decide +kernel
theorem dX12_counted_42 : decode cX12_counted 42 = .ok (.iadd, 1) := by decide +kernel
theorem dX12_counted_43 : decode cX12_counted 43 = .ok (.iload_n 2, 1) := by decide +kernel
theorem dX12_counted_44 : decode cX12_counted 44 = .ok (.iadd, 1) := by decide +kernel
theorem dX12_counted_45 : decode cX12_counted 45 = .ok (.iaload, 1) := by decide +kernel
theorem dX12_counted_46 : decode cX12_counted 46 = .ok (.istore 4, 2) := by decide +kernel
theorem dX12_counted_48 : decode cX12_counted 48 = .ok (.aload_n 0, 1) := by decide +kernel
theorem dX12_counted_49 : decode cX12_counted 49 = .ok (.getfield 25, 3) := by decide +kernel
theorem dX12_counted_52 : decode cX12_counted 52 = .ok (.bipush 9, 2) := by decide +kernel
theorem dX12_counted_54 : decode cX12_counted 54 = .ok (.iload_n 1, 1) := by decide +kernel
theorem dX12_counted_55 : decode cX12_counted 55 = .ok (.imul, 1) := by decide +kernel
theorem dX12_counted_56 : decode cX12_counted 56 = .ok (.iconst 4, 1) := by decide +kernel
theorem dX12_counted_57 : decode cX12_counted 57 = .ok (.iadd, 1) := by decide +kernel
theorem dX12_counted_58 : decode cX12_counted 58 = .ok (.iload_n 2, 1) := by decide +kernel
theorem dX12_counted_59 : decode cX12_counted 59 = .ok (.iadd, 1) := by decide +kernel
theorem dX12_counted_60 : decode cX12_counted 60 = .ok (.iload_n 3, 1) := by decide +kernel
theorem dX12_counted_61 : decode cX12_counted 61 = .ok (.iastore, 1) := by decide +kernel
theorem dX12_counted_62 : decode cX12_counted 62 = .ok (.iload 4, 2) := by decide +kernel
theorem dX12_counted_64 : decode cX12_counted 64 = .ok (.ireturn, 1) := by decide +kernel
theorem cd_147 (G : ZG) (d : Nat) (K : ZKt) (F : ZFt) (hT : zt5 G.2.2.2) : CS G RX12 cX12_counted 5 d K (some .int) [] (fun _ => []) 0 (bd_147 G.2.2.2 K F) := by
  unfold bd_147
  exact (CS.seq 20 (CS.if1 (T := 17) (F := 20) (CD.pure (CC.or (CC.not (CC.if_ne_F (T := 7) (F := 17) (CE.callS (by decide) (CA.int (CE.iload_n rfl dX12_counted_0 zhd) CA.nil) zi_136 cs_X12_150 (fun _ => rfl) dX12_counted_1 zhd) dX12_counted_4 rfl rfl)) (CC.not (CC.if_ne_T (T := 20) (F := 17) (CE.callS (by decide) (CA.int (CE.iload_n rfl dX12_counted_7 zhd) (CA.int (CE.bipush kB_m4 dX12_counted_8 zhd) (CA.int (CE.iconst kI_4 dX12_counted_10 zhd) CA.nil))) zi_135 cs_X12_142 (fun _ => rfl) dX12_counted_11 zhd) dX12_counted_14 rfl rfl)))) (CS.retI (CX.pure (CE.bipush kB_m101 dX12_counted_17 zhd)) dX12_counted_19) zhd)
  (CS.seq 33 (CS.if1 (T := 30) (F := 33) (CD.pure (CC.not (CC.if_ne_T (T := 33) (F := 30) (CE.callS (by decide) (CA.int (CE.iload_n rfl dX12_counted_20 zhd) (CA.int (CE.iconst kI_0 dX12_counted_21 zhd) (CA.int (CE.bipush kB_99 dX12_counted_22 zhd) CA.nil))) zi_135 cs_X12_142 (fun _ => rfl) dX12_counted_24 zhd) dX12_counted_27 rfl rfl))) (CS.retI (CX.pure (CE.bipush kB_m102 dX12_counted_30 zhd)) dX12_counted_32) zhd)
  (CS.seq 48 (CS.decI (CX.pure (CE.aldI (CE.getR (CE.aload_n rfl dX12_counted_33 zhd) fs_X12_25 dX12_counted_34 zhd) (CE.iadd (CE.iadd (CE.imul (CE.bipush kB_9 dX12_counted_37 zhd) (CE.iload_n rfl dX12_counted_39 zhd) dX12_counted_40 zhd) (CE.iconst kI_4 dX12_counted_41 zhd) dX12_counted_42 zhd) (CE.iload_n rfl dX12_counted_43 zhd) dX12_counted_44 zhd) (Or.inl ⟨rfl, dX12_counted_45⟩) zhd)) (by decide) dX12_counted_46 zhd)
  (CS.seq 62 (CS.st (CE.getR (CE.aload_n rfl dX12_counted_48 zhd) fs_X12_25 dX12_counted_49 zhd) (CX.pure (CE.iadd (CE.iadd (CE.imul (CE.bipush kB_9 dX12_counted_52 zhd) (CE.iload_n rfl dX12_counted_54 zhd) dX12_counted_55 zhd) (CE.iconst kI_4 dX12_counted_56 zhd) dX12_counted_57 zhd) (CE.iload_n rfl dX12_counted_58 zhd) dX12_counted_59 zhd)) (CX.pure (CE.iload_n rfl dX12_counted_60 zhd)) (Or.inl ⟨rfl, dX12_counted_61⟩) zhd)
  (CS.retI (CX.pure (CE.iload dX12_counted_62 zhd)) dX12_counted_64)))))
theorem dX12_letters_0 : decode cX12_letters 0 = .ok (.iconst 0, 1) := by decide +kernel
theorem dX12_letters_1 : decode cX12_letters 1 = .ok (.istore_n 3, 1) := by decide +kernel
theorem dX12_letters_2 : decode cX12_letters 2 = .ok (.iconst 0, 1) := by decide +kernel
theorem dX12_letters_3 : decode cX12_letters 3 = .ok (.istore 4, 2) := by decide +kernel
theorem dX12_letters_5 : decode cX12_letters 5 = .ok (.iconst 0, 1) := by decide +kernel
theorem dX12_letters_6 : decode cX12_letters 6 = .ok (.istore 5, 2) := by decide +kernel
theorem dX12_letters_8 : decode cX12_letters 8 = .ok (.iload 5, 2) := by decide +kernel
theorem dX12_letters_10 : decode cX12_letters 10 = .ok (.bipush 8, 2) := by decide +kernel
theorem dX12_letters_12 : decode cX12_letters 12 = .ok (.if_icmp .ge 73, 3) := by decide +kernel
theorem dX12_letters_15 : decode cX12_letters 15 = .ok (.lload_n 1, 1) := by decide +kernel
theorem dX12_letters_16 : decode cX12_letters 16 = .ok (.bipush 8, 2) := by decide +kernel
theorem dX12_letters_18 : decode cX12_letters 18 = .ok (.iload 5, 2) := by decide +kernel
theorem dX12_letters_20 : decode cX12_letters 20 = .ok (.imul, 1) := by decide +kernel
theorem dX12_letters_21 : decode cX12_letters 21 = .ok (.lshr, 1) := by decide +kernel
theorem dX12_letters_22 : decode cX12_letters 22 = .ok (.ldc2_w 168, 3) := by decide +kernel
theorem dX12_letters_25 : decode cX12_letters 25 = .ok (.land, 1) := by decide +kernel
theorem dX12_letters_26 : decode cX12_letters 26 = .ok (.l2i, 1) := by decide +kernel
theorem dX12_letters_27 : decode cX12_letters 27 = .ok (.istore 6, 2) := by decide +kernel
theorem dX12_letters_29 : decode cX12_letters 29 = .ok (.iload 6, 2) := by decide +kernel
theorem dX12_letters_31 : decode cX12_letters 31 = .ok (.bipush 126, 2) := by decide +kernel
theorem dX12_letters_33 : decode cX12_letters 33 = .ok (.if_icmp .gt 13, 3) := by decide +kernel
theorem dX12_letters_36 : decode cX12_letters 36 = .ok (.iload 4, 2) := by decide +kernel
theorem dX12_letters_38 : decode cX12_letters 38 = .ok (.ifCond .eq 11, 3) := by decide +kernel
theorem dX12_letters_41 : decode cX12_letters 41 = .ok (.iload 6, 2) := by decide +kernel
theorem dX12_letters_43 : decode cX12_letters 43 = .ok (.ifCond .eq 6, 3) := by decide +kernel
theorem dX12_letters_46 : decode cX12_letters 46 = .ok (.bipush (-102), 2) := by decide +kernel
theorem dX12_letters_48 : decode cX12_letters 48 = .ok (.ireturn, 1) := by decide +kernel
theorem dX12_letters_49 : decode cX12_letters 49 = .ok (.iload 4, 2) := by decide +kernel
theorem dX12_letters_51 : decode cX12_letters 51 = .ok (.ifCond .ne 8, 3) := by decide +kernel
theorem dX12_letters_54 : decode cX12_letters 54 = .ok (.iload 6, 2) := by decide +kernel
theorem dX12_letters_56 : decode cX12_letters 56 = .ok (.ifCond .ne 7, 3) := by decide +kernel
theorem dX12_letters_59 : decode cX12_letters 59 = .ok (.iconst 1, 1) := by decide +kernel
theorem dX12_letters_60 : decode cX12_letters 60 = .ok (.goto 4, 3) := by decide +kernel
theorem dX12_letters_63 : decode cX12_letters 63 = .ok (.iconst 0, 1) := by decide +kernel
theorem dX12_letters_64 : decode cX12_letters 64 = .ok (.istore 4, 2) := by decide +kernel
theorem dX12_letters_66 : decode cX12_letters 66 = .ok (.iload_n 3, 1) := by decide +kernel
theorem dX12_letters_67 : decode cX12_letters 67 = .ok (.iload 6, 2) := by decide +kernel
theorem dX12_letters_69 : decode cX12_letters 69 = .ok (.ifCond .ne 7, 3) := by decide +kernel
theorem dX12_letters_72 : decode cX12_letters 72 = .ok (.iconst 0, 1) := by decide +kernel
theorem dX12_letters_73 : decode cX12_letters 73 = .ok (.goto 4, 3) := by decide +kernel
theorem dX12_letters_76 : decode cX12_letters 76 = .ok (.iconst 1, 1) := by decide +kernel
theorem dX12_letters_77 : decode cX12_letters 77 = .ok (.iadd, 1) := by decide +kernel
theorem dX12_letters_78 : decode cX12_letters 78 = .ok (.istore_n 3, 1) := by decide +kernel
theorem dX12_letters_79 : decode cX12_letters 79 = .ok (.iinc 5 1, 3) := by decide +kernel
theorem dX12_letters_82 : decode cX12_letters 82 = .ok (.goto (-74), 3) := by decide +kernel
theorem dX12_letters_85 : decode cX12_letters 85 = .ok (.aload_n 0, 1) := by decide +kernel
theorem dX12_letters_86 : decode cX12_letters 86 = .ok (.getfield 170, 3) := by decide +kernel
theorem dX12_letters_89 : decode cX12_letters 89 = .ok (.iload_n 3, 1) := by decide +kernel
theorem dX12_letters_90 : decode cX12_letters 90 = .ok (.iadd, 1) := by decide +kernel
theorem dX12_letters_91 : decode cX12_letters 91 = .ok (.bipush 40, 2) := by decide +kernel
theorem dX12_letters_93 : decode cX12_letters 93 = .ok (.if_icmp .le 6, 3) := by decide +kernel
theorem dX12_letters_96 : decode cX12_letters 96 = .ok (.bipush (-104), 2) := by decide +kernel
theorem dX12_letters_98 : decode cX12_letters 98 = .ok (.ireturn, 1) := by decide +kernel
theorem dX12_letters_99 : decode cX12_letters 99 = .ok (.iconst 0, 1) := by decide +kernel
theorem dX12_letters_100 : decode cX12_letters 100 = .ok (.istore 5, 2) := by decide +kernel
theorem dX12_letters_102 : decode cX12_letters 102 = .ok (.iload 5, 2) := by decide +kernel
theorem dX12_letters_104 : decode cX12_letters 104 = .ok (.iload_n 3, 1) := by decide +kernel
theorem dX12_letters_105 : decode cX12_letters 105 = .ok (.if_icmp .ge 30, 3) := by decide +kernel
theorem dX12_letters_108 : decode cX12_letters 108 = .ok (.aload_n 0, 1) := by decide +kernel
theorem dX12_letters_109 : decode cX12_letters 109 = .ok (.getfield 28, 3) := by decide +kernel
theorem dX12_letters_112 : decode cX12_letters 112 = .ok (.aload_n 0, 1) := by decide +kernel
theorem dX12_letters_113 : decode cX12_letters 113 = .ok (.getfield 170, 3) := by decide +kernel
theorem dX12_letters_116 : decode cX12_letters 116 = .ok (.iload 5, 2) := by decide +kernel
theorem dX12_letters_118 : decode cX12_letters 118 = .ok (.iadd, 1) := by decide +kernel
theorem dX12_letters_119 : decode cX12_letters 119 = .ok (.lload_n 1, 1) := by decide +kernel
theorem dX12_letters_120 : decode cX12_letters 120 = .ok (.bipush 8, 2) := by decide +kernel
theorem dX12_letters_122 : decode cX12_letters 122 = .ok (.iload 5, 2) := by decide +kernel
theorem dX12_letters_124 : decode cX12_letters 124 = .ok (.imul, 1) := by decide +kernel
theorem dX12_letters_125 : decode cX12_letters 125 = .ok (.lshr, 1) := by decide +kernel
theorem dX12_letters_126 : decode cX12_letters 126 = .ok (.l2i, 1) := by decide +kernel
theorem dX12_letters_127 : decode cX12_letters 127 = .ok (.i2b, 1) := by decide +kernel
theorem dX12_letters_128 : decode cX12_letters 128 = .ok (.bastore, 1) := by decide +kernel
theorem dX12_letters_129 : decode cX12_letters 129 = .ok (.iinc 5 1, 3) := by decide +kernel
theorem dX12_letters_132 : decode cX12_letters 132 = .ok (.goto (-30), 3) := by decide +kernel
theorem dX12_letters_135 : decode cX12_letters 135 = .ok (.aload_n 0, 1) := by decide +kernel
theorem dX12_letters_136 : decode cX12_letters 136 = .ok (.dup, 1) := by decide +kernel
theorem dX12_letters_137 : decode cX12_letters 137 = .ok (.getfield 170, 3) := by decide +kernel
theorem dX12_letters_140 : decode cX12_letters 140 = .ok (.iload_n 3, 1) := by decide +kernel
theorem dX12_letters_141 : decode cX12_letters 141 = .ok (.iadd, 1) := by decide +kernel
theorem dX12_letters_142 : decode cX12_letters 142 = .ok (.putfield 170, 3) := by decide +kernel
theorem dX12_letters_145 : decode cX12_letters 145 = .ok (.aload_n 0, 1) := by decide +kernel
theorem dX12_letters_146 : decode cX12_letters 146 = .ok (.getfield 170, 3) := by decide +kernel
theorem dX12_letters_149 : decode cX12_letters 149 = .ok (.ireturn, 1) := by decide +kernel
theorem cd_148 (G : ZG) (d : Nat) (K : ZKt) (F : ZFt) (hT : zt5 G.2.2.2) : CS G RX12 cX12_letters 7 d K (some .int) [] (fun _ => []) 0 (bd_148 G.2.2.2 K F) := by
  unfold bd_148
  exact (CS.seq 2 (CS.decI_n (CX.pure (CE.iconst kI_0 dX12_letters_0 zhd)) rfl (by decide) dX12_letters_1 zhd)
  (CS.seq 5 (CS.decI (CX.pure (CE.iconst kI_0 dX12_letters_2 zhd)) (by decide) dX12_letters_3 zhd)
  (CS.seq 85 (CS.scope (CS.seq 8 (CS.decI (CX.pure (CE.iconst kI_0 dX12_letters_5 zhd)) (by decide) dX12_letters_6 zhd)
  (CS.whl (T := 15) (F := 85) (p1 := 82) (CD.pure (CC.icmp_lt_F (T := 15) (F := 85) (CE.iload dX12_letters_8 zhd) (CE.bipush kB_8 dX12_letters_10 zhd) dX12_letters_12 rfl rfl))
  (CS.seq 79 (CS.scope (CS.seq 29 (CS.decI (CX.pure (CE.l2i (CE.land (CE.lshr (CE.lload_n rfl dX12_letters_15 zhd) (CE.imul (CE.bipush kB_8 dX12_letters_16 zhd) (CE.iload dX12_letters_18 zhd) dX12_letters_20 zhd) dX12_letters_21 zhd) (CE.ldc2 lc_X12_168 dX12_letters_22 zhd) dX12_letters_25 zhd) dX12_letters_26 zhd)) (by decide) dX12_letters_27 zhd)
  (CS.seq 49 (CS.if1 (T := 46) (F := 49) (CD.pure (CC.or (CC.icmp_gt_T (T := 46) (F := 36) (CE.iload dX12_letters_29 zhd) (CE.bipush kB_126 dX12_letters_31 zhd) dX12_letters_33 rfl rfl) (CC.and (CC.if_ne_F (T := 41) (F := 49) (CE.iload dX12_letters_36 zhd) dX12_letters_38 rfl rfl) (CC.if_ne_F (T := 46) (F := 49) (CE.iload dX12_letters_41 zhd) dX12_letters_43 rfl rfl)))) (CS.retI (CX.pure (CE.bipush kB_m102 dX12_letters_46 zhd)) dX12_letters_48) zhd)
  (CS.seq 66 (CS.setI (CX.pure (CE.bool (T := 59) (F := 63) (q := 64) (CC.or (CC.if_ne_T (T := 59) (F := 54) (CE.iload dX12_letters_49 zhd) dX12_letters_51 rfl rfl) (CC.if_eq_F (T := 59) (F := 63) (CE.iload dX12_letters_54 zhd) dX12_letters_56 rfl rfl)) dX12_letters_59 rfl dX12_letters_60 rfl zhd dX12_letters_63 zhd)) (by decide) dX12_letters_64 zhd)
  (CS.setI_n (CX.pure (CE.iadd (CE.iload_n rfl dX12_letters_66 zhd) (CE.tern (T := 72) (F := 76) (p1 := 73) (q := 77) (CC.if_eq_F (T := 72) (F := 76) (CE.iload dX12_letters_67 zhd) dX12_letters_69 rfl rfl) (CE.iconst kI_0 dX12_letters_72 zhd) zex2 dX12_letters_73 rfl zhd (CE.iconst kI_1 dX12_letters_76 zhd)) dX12_letters_77 zhd)) rfl (by decide) dX12_letters_78 zhd)))))
  (CS.inc kI_1 (by decide) dX12_letters_79 zhd)) dX12_letters_82 rfl zhd)))
  (CS.seq 99 (CS.if1 (T := 96) (F := 99) (CD.pure (CC.icmp_gt_F (T := 96) (F := 99) (CE.iadd (CE.getI (CE.aload_n rfl dX12_letters_85 zhd) fs_X12_170 dX12_letters_86 zhd) (CE.iload_n rfl dX12_letters_89 zhd) dX12_letters_90 zhd) (CE.bipush kB_40 dX12_letters_91 zhd) dX12_letters_93 rfl rfl)) (CS.retI (CX.pure (CE.bipush kB_m104 dX12_letters_96 zhd)) dX12_letters_98) zhd)
  (CS.seq 135 (CS.scope (CS.seq 102 (CS.decI (CX.pure (CE.iconst kI_0 dX12_letters_99 zhd)) (by decide) dX12_letters_100 zhd)
  (CS.whl (T := 108) (F := 135) (p1 := 132) (CD.pure (CC.icmp_lt_F (T := 108) (F := 135) (CE.iload dX12_letters_102 zhd) (CE.iload_n rfl dX12_letters_104 zhd) dX12_letters_105 rfl rfl))
  (CS.seq 129 (CS.st (CE.getR (CE.aload_n rfl dX12_letters_108 zhd) fs_X12_28 dX12_letters_109 zhd) (CX.pure (CE.iadd (CE.getI (CE.aload_n rfl dX12_letters_112 zhd) fs_X12_170 dX12_letters_113 zhd) (CE.iload dX12_letters_116 zhd) dX12_letters_118 zhd)) (CX.pure (CE.i2b (CE.l2i (CE.lshr (CE.lload_n rfl dX12_letters_119 zhd) (CE.imul (CE.bipush kB_8 dX12_letters_120 zhd) (CE.iload dX12_letters_122 zhd) dX12_letters_124 zhd) dX12_letters_125 zhd) dX12_letters_126 zhd) dX12_letters_127 zhd)) (Or.inr ⟨Or.inl rfl, dX12_letters_128⟩) zhd)
  (CS.inc kI_1 (by decide) dX12_letters_129 zhd)) dX12_letters_132 rfl zhd)))
  (CS.seq 145 (CS.upd (CE.aload_n rfl dX12_letters_135 zhd) dX12_letters_136 dX12_letters_137 (CE.iload_n rfl dX12_letters_140 zhd) (Or.inl ⟨rfl, dX12_letters_141⟩) fs_X12_170 fp_X12_170 dX12_letters_142 zhd)
  (CS.retI (CX.pure (CE.getI (CE.aload_n rfl dX12_letters_145 zhd) fs_X12_170 dX12_letters_146 zhd)) dX12_letters_149)))))))
theorem dX12_blank_0 : decode cX12_blank 0 = .ok (.aload_n 0, 1) := by decide +kernel
theorem dX12_blank_1 : decode cX12_blank 1 = .ok (.getfield 170, 3) := by decide +kernel
theorem dX12_blank_4 : decode cX12_blank 4 = .ok (.istore_n 1, 1) := by decide +kernel
theorem dX12_blank_5 : decode cX12_blank 5 = .ok (.aload_n 0, 1) := by decide +kernel
theorem dX12_blank_6 : decode cX12_blank 6 = .ok (.iconst 0, 1) := by decide +kernel
theorem dX12_blank_7 : decode cX12_blank 7 = .ok (.putfield 170, 3) := by decide +kernel
theorem dX12_blank_10 : decode cX12_blank 10 = .ok (.iload_n 1, 1) := by decide +kernel
theorem dX12_blank_11 : decode cX12_blank 11 = .ok (.ireturn, 1) := by decide +kernel
theorem cd_149 (G : ZG) (d : Nat) (K : ZKt) (F : ZFt) (hT : zt5 G.2.2.2) : CS G RX12 cX12_blank 2 d K (some .int) [] (fun _ => []) 0 (bd_149 G.2.2.2 K F) := by
  unfold bd_149
  exact (CS.seq 5 (CS.decI_n (CX.pure (CE.getI (CE.aload_n rfl dX12_blank_0 zhd) fs_X12_170 dX12_blank_1 zhd)) rfl (by decide) dX12_blank_4 zhd)
  (CS.seq 10 (CS.put (CE.aload_n rfl dX12_blank_5 zhd) (CX.pure (CE.iconst kI_0 dX12_blank_6 zhd)) fp_X12_170 rfl dX12_blank_7 zhd)
  (CS.retI (CX.pure (CE.iload_n rfl dX12_blank_10 zhd)) dX12_blank_11)))
theorem dX12_readChain_0 : decode cX12_readChain 0 = .ok (.iconst 0, 1) := by decide +kernel
theorem dX12_readChain_1 : decode cX12_readChain 1 = .ok (.istore_n 1, 1) := by decide +kernel
theorem dX12_readChain_2 : decode cX12_readChain 2 = .ok (.iconst 0, 1) := by decide +kernel
theorem dX12_readChain_3 : decode cX12_readChain 3 = .ok (.istore_n 2, 1) := by decide +kernel
theorem dX12_readChain_4 : decode cX12_readChain 4 = .ok (.iconst 0, 1) := by decide +kernel
theorem dX12_readChain_5 : decode cX12_readChain 5 = .ok (.istore_n 3, 1) := by decide +kernel
theorem dX12_readChain_6 : decode cX12_readChain 6 = .ok (.iconst 1, 1) := by decide +kernel
theorem dX12_readChain_7 : decode cX12_readChain 7 = .ok (.istore 4, 2) := by decide +kernel
theorem dX12_readChain_9 : decode cX12_readChain 9 = .ok (.iconst 0, 1) := by decide +kernel
theorem dX12_readChain_10 : decode cX12_readChain 10 = .ok (.istore 5, 2) := by decide +kernel
theorem dX12_readChain_12 : decode cX12_readChain 12 = .ok (.iconst 0, 1) := by decide +kernel
theorem dX12_readChain_13 : decode cX12_readChain 13 = .ok (.istore 6, 2) := by decide +kernel
theorem dX12_readChain_15 : decode cX12_readChain 15 = .ok (.iconst 1, 1) := by decide +kernel
theorem dX12_readChain_16 : decode cX12_readChain 16 = .ok (.istore 7, 2) := by decide +kernel
theorem dX12_readChain_18 : decode cX12_readChain 18 = .ok (.aload_n 0, 1) := by decide +kernel
theorem dX12_readChain_19 : decode cX12_readChain 19 = .ok (.iconst 0, 1) := by decide +kernel
theorem dX12_readChain_20 : decode cX12_readChain 20 = .ok (.putfield 173, 3) := by decide +kernel
theorem dX12_readChain_23 : decode cX12_readChain 23 = .ok (.iload 6, 2) := by decide +kernel
theorem dX12_readChain_25 : decode cX12_readChain 25 = .ok (.aload_n 0, 1) := by decide +kernel
theorem dX12_readChain_26 : decode cX12_readChain 26 = .ok (.getfield 170, 3) := by decide +kernel
theorem dX12_readChain_29 : decode cX12_readChain 29 = .ok (.if_icmp .ge 291, 3) := by decide +kernel
theorem dX12_readChain_32 : decode cX12_readChain 32 = .ok (.iload 7, 2) := by decide +kernel
theorem dX12_readChain_34 : decode cX12_readChain 34 = .ok (.ifCond .eq 286, 3) := by decide +kernel
theorem dX12_readChain_37 : decode cX12_readChain 37 = .ok (.aload_n 0, 1) := by decide +kernel
theorem dX12_readChain_38 : decode cX12_readChain 38 = .ok (.getfield 28, 3) := by decide +kernel
theorem dX12_readChain_41 : decode cX12_readChain 41 = .ok (.iload 6, 2) := by decide +kernel
theorem dX12_readChain_43 : decode cX12_readChain 43 = .ok (.baload, 1) := by decide +kernel
theorem dX12_readChain_44 : decode cX12_readChain 44 = .ok (.istore 8, 2) := by decide +kernel
theorem dX12_readChain_46 : decode cX12_readChain 46 = .ok (.iload 8, 2) := by decide +kernel
theorem dX12_readChain_48 : decode cX12_readChain 48 = .ok (.bipush 48, 2) := by decide +kernel
theorem dX12_readChain_50 : decode cX12_readChain 50 = .ok (.bipush 57, 2) := by decide +kernel
theorem dX12_readChain_52 : decode cX12_readChain 52 = .ok (.invokestatic 142, 3) := by decide +kernel
theorem dX12_readChain_55 : decode cX12_readChain 55 = .ok (.istore 9, 2) := by decide +kernel
theorem dX12_readChain_57 : decode cX12_readChain 57 = .ok (.iload_n 1, 1) := by decide +kernel
theorem dX12_readChain_58 : decode cX12_readChain 58 = .ok (.ifCond .eq 17, 3) := by decide +kernel
theorem dX12_readChain_61 : decode cX12_readChain 61 = .ok (.iload_n 1, 1) := by decide +kernel
theorem dX12_readChain_62 : decode cX12_readChain 62 = .ok (.iconst 2, 1) := by decide +kernel
theorem dX12_readChain_63 : decode cX12_readChain 63 = .ok (.if_icmp .ne 52, 3) := by decide +kernel
theorem dX12_readChain_66 : decode cX12_readChain 66 = .ok (.aload_n 0, 1) := by decide +kernel
theorem dX12_readChain_67 : decode cX12_readChain 67 = .ok (.getfield 173, 3) := by decide +kernel
theorem dX12_readChain_70 : decode cX12_readChain 70 = .ok (.bipush 6, 2) := by decide +kernel
theorem dX12_readChain_72 : decode cX12_readChain 72 = .ok (.if_icmp .ge 43, 3) := by decide +kernel
theorem dX12_readChain_75 : decode cX12_readChain 75 = .ok (.iload 8, 2) := by decide +kernel
theorem dX12_readChain_77 : decode cX12_readChain 77 = .ok (.bipush 43, 2) := by decide +kernel
theorem dX12_readChain_79 : decode cX12_readChain 79 = .ok (.if_icmp .eq 10, 3) := by decide +kernel
theorem dX12_readChain_82 : decode cX12_readChain 82 = .ok (.iload 8, 2) := by decide +kernel
theorem dX12_readChain_84 : decode cX12_readChain 84 = .ok (.bipush 45, 2) := by decide +kernel
theorem dX12_readChain_86 : decode cX12_readChain 86 = .ok (.if_icmp .ne 29, 3) := by decide +kernel
theorem dX12_readChain_89 : decode cX12_readChain 89 = .ok (.aload_n 0, 1) := by decide +kernel
theorem dX12_readChain_90 : decode cX12_readChain 90 = .ok (.getfield 104, 3) := by decide +kernel
theorem dX12_readChain_93 : decode cX12_readChain 93 = .ok (.aload_n 0, 1) := by decide +kernel
theorem dX12_readChain_94 : decode cX12_readChain 94 = .ok (.getfield 173, 3) := by decide +kernel
theorem dX12_readChain_97 : decode cX12_readChain 97 = .ok (.iload 8, 2) := by decide +kernel
theorem dX12_readChain_99 : decode cX12_readChain 99 = .ok (.bipush 43, 2) := by decide +kernel
theorem dX12_readChain_101 : decode cX12_readChain 101 = .ok (.if_icmp .ne 7, 3) := by decide +kernel
theorem dX12_readChain_104 : decode cX12_readChain 104 = .ok (.iconst 1, 1) := by decide +kernel
theorem dX12_readChain_105 : decode cX12_readChain 105 = .ok (.goto 4, 3) := by decide +kernel
theorem dX12_readChain_108 : decode cX12_readChain 108 = .ok (.iconst (-1), 1) := by decide +kernel
theorem dX12_readChain_109 : decode cX12_readChain 109 = .ok (.iastore, 1) := by decide +kernel
theorem dX12_readChain_110 : decode cX12_readChain 110 = .ok (.iconst 1, 1) := by decide +kernel
theorem dX12_readChain_111 : decode cX12_readChain 111 = .ok (.istore_n 1, 1) := by decide +kernel
theorem dX12_readChain_112 : decode cX12_readChain 112 = .ok (.goto 190, 3) := by decide +kernel
theorem dX12_readChain_115 : decode cX12_readChain 115 = .ok (.iload_n 1, 1) := by decide +kernel
theorem dX12_readChain_116 : decode cX12_readChain 116 = .ok (.iconst 1, 1) := by decide +kernel
theorem dX12_readChain_117 : decode cX12_readChain 117 = .ok (.if_icmp .ne 44, 3) := by decide +kernel
theorem dX12_readChain_120 : decode cX12_readChain 120 = .ok (.iload 8, 2) := by decide +kernel
theorem dX12_readChain_122 : decode cX12_readChain 122 = .ok (.bipush 97, 2) := by decide +kernel
theorem dX12_readChain_124 : decode cX12_readChain 124 = .ok (.bipush 104, 2) := by decide +kernel
theorem dX12_readChain_126 : decode cX12_readChain 126 = .ok (.invokestatic 142, 3) := by decide +kernel
theorem dX12_readChain_129 : decode cX12_readChain 129 = .ok (.ifCond .eq 32, 3) := by decide +kernel
theorem dX12_readChain_132 : decode cX12_readChain 132 = .ok (.aload_n 0, 1) := by decide +kernel
theorem dX12_readChain_133 : decode cX12_readChain 133 = .ok (.getfield 101, 3) := by decide +kernel
theorem dX12_readChain_136 : decode cX12_readChain 136 = .ok (.aload_n 0, 1) := by decide +kernel
theorem dX12_readChain_137 : decode cX12_readChain 137 = .ok (.getfield 173, 3) := by decide +kernel
theorem dX12_readChain_140 : decode cX12_readChain 140 = .ok (.iload 8, 2) := by decide +kernel
theorem dX12_readChain_142 : decode cX12_readChain 142 = .ok (.bipush 97, 2) := by decide +kernel
theorem dX12_readChain_144 : decode cX12_readChain 144 = .ok (.isub, 1) := by decide +kernel
theorem dX12_readChain_145 : decode cX12_readChain 145 = .ok (.iastore, 1) := by decide +kernel
theorem dX12_readChain_146 : decode cX12_readChain 146 = .ok (.aload_n 0, 1) := by decide +kernel
theorem dX12_readChain_147 : decode cX12_readChain 147 = .ok (.dup, 1) := by decide +kernel
theorem dX12_readChain_148 : decode cX12_readChain 148 = .ok (.getfield 173, 3) := by decide +kernel
theorem dX12_readChain_151 : decode cX12_readChain 151 = .ok (.iconst 1, 1) := by decide +kernel
theorem dX12_readChain_152 : decode cX12_readChain 152 = .ok (.iadd, 1) := by decide +kernel
theorem dX12_readChain_153 : decode cX12_readChain 153 = .ok (.putfield 173, 3) := by decide +kernel
theorem dX12_readChain_156 : decode cX12_readChain 156 = .ok (.iconst 2, 1) := by decide +kernel
theorem dX12_readChain_157 : decode cX12_readChain 157 = .ok (.istore_n 1, 1) := by decide +kernel
theorem dX12_readChain_158 : decode cX12_readChain 158 = .ok (.goto 144, 3) := by decide +kernel
theorem dX12_readChain_161 : decode cX12_readChain 161 = .ok (.iload_n 1, 1) := by decide +kernel
theorem dX12_readChain_162 : decode cX12_readChain 162 = .ok (.iconst 2, 1) := by decide +kernel
theorem dX12_readChain_163 : decode cX12_readChain 163 = .ok (.if_icmp .ne 23, 3) := by decide +kernel
theorem dX12_readChain_166 : decode cX12_readChain 166 = .ok (.iload 8, 2) := by decide +kernel
theorem dX12_readChain_168 : decode cX12_readChain 168 = .ok (.bipush 61, 2) := by decide +kernel
theorem dX12_readChain_170 : decode cX12_readChain 170 = .ok (.if_icmp .ne 16, 3) := by decide +kernel
theorem dX12_readChain_173 : decode cX12_readChain 173 = .ok (.iconst 3, 1) := by decide +kernel
theorem dX12_readChain_174 : decode cX12_readChain 174 = .ok (.istore_n 1, 1) := by decide +kernel
theorem dX12_readChain_175 : decode cX12_readChain 175 = .ok (.iconst 1, 1) := by decide +kernel
theorem dX12_readChain_176 : decode cX12_readChain 176 = .ok (.istore 4, 2) := by decide +kernel
theorem dX12_readChain_178 : decode cX12_readChain 178 = .ok (.iconst 0, 1) := by decide +kernel
theorem dX12_readChain_179 : decode cX12_readChain 179 = .ok (.istore 5, 2) := by decide +kernel
theorem dX12_readChain_181 : decode cX12_readChain 181 = .ok (.iconst 0, 1) := by decide +kernel
theorem dX12_readChain_182 : decode cX12_readChain 182 = .ok (.istore_n 3, 1) := by decide +kernel
theorem dX12_readChain_183 : decode cX12_readChain 183 = .ok (.goto 119, 3) := by decide +kernel
theorem dX12_readChain_186 : decode cX12_readChain 186 = .ok (.iload_n 1, 1) := by decide +kernel
theorem dX12_readChain_187 : decode cX12_readChain 187 = .ok (.iconst 3, 1) := by decide +kernel
theorem dX12_readChain_188 : decode cX12_readChain 188 = .ok (.if_icmp .ne 18, 3) := by decide +kernel
theorem dX12_readChain_191 : decode cX12_readChain 191 = .ok (.iload 8, 2) := by decide +kernel
theorem dX12_readChain_193 : decode cX12_readChain 193 = .ok (.bipush 45, 2) := by decide +kernel
theorem dX12_readChain_195 : decode cX12_readChain 195 = .ok (.if_icmp .ne 11, 3) := by decide +kernel
theorem dX12_readChain_198 : decode cX12_readChain 198 = .ok (.iconst (-1), 1) := by decide +kernel
theorem dX12_readChain_199 : decode cX12_readChain 199 = .ok (.istore 4, 2) := by decide +kernel
theorem dX12_readChain_201 : decode cX12_readChain 201 = .ok (.iconst 4, 1) := by decide +kernel
theorem dX12_readChain_202 : decode cX12_readChain 202 = .ok (.istore_n 1, 1) := by decide +kernel
theorem dX12_readChain_203 : decode cX12_readChain 203 = .ok (.goto 99, 3) := by decide +kernel
theorem dX12_readChain_206 : decode cX12_readChain 206 = .ok (.iload_n 1, 1) := by decide +kernel
theorem dX12_readChain_207 : decode cX12_readChain 207 = .ok (.iconst 3, 1) := by decide +kernel
theorem dX12_readChain_208 : decode cX12_readChain 208 = .ok (.if_icmp .eq 8, 3) := by decide +kernel
theorem dX12_readChain_211 : decode cX12_readChain 211 = .ok (.iload_n 1, 1) := by decide +kernel
theorem dX12_readChain_212 : decode cX12_readChain 212 = .ok (.iconst 4, 1) := by decide +kernel
theorem dX12_readChain_213 : decode cX12_readChain 213 = .ok (.if_icmp .ne 8, 3) := by decide +kernel
theorem dX12_readChain_216 : decode cX12_readChain 216 = .ok (.iload 9, 2) := by decide +kernel
theorem dX12_readChain_218 : decode cX12_readChain 218 = .ok (.ifCond .ne 18, 3) := by decide +kernel
theorem dX12_readChain_221 : decode cX12_readChain 221 = .ok (.iload_n 1, 1) := by decide +kernel
theorem dX12_readChain_222 : decode cX12_readChain 222 = .ok (.iconst 5, 1) := by decide +kernel
theorem dX12_readChain_223 : decode cX12_readChain 223 = .ok (.if_icmp .ne 45, 3) := by decide +kernel
theorem dX12_readChain_226 : decode cX12_readChain 226 = .ok (.iload 9, 2) := by decide +kernel
theorem dX12_readChain_228 : decode cX12_readChain 228 = .ok (.ifCond .eq 40, 3) := by decide +kernel
theorem dX12_readChain_231 : decode cX12_readChain 231 = .ok (.iload_n 3, 1) := by decide +kernel
theorem dX12_readChain_232 : decode cX12_readChain 232 = .ok (.iconst 4, 1) := by decide +kernel
theorem dX12_readChain_233 : decode cX12_readChain 233 = .ok (.if_icmp .ge 35, 3) := by decide +kernel
theorem dX12_readChain_236 : decode cX12_readChain 236 = .ok (.bipush 10, 2) := by decide +kernel
theorem dX12_readChain_238 : decode cX12_readChain 238 = .ok (.iload 5, 2) := by decide +kernel
theorem dX12_readChain_240 : decode cX12_readChain 240 = .ok (.imul, 1) := by decide +kernel
theorem dX12_readChain_241 : decode cX12_readChain 241 = .ok (.iload 8, 2) := by decide +kernel
theorem dX12_readChain_243 : decode cX12_readChain 243 = .ok (.iadd, 1) := by decide +kernel
theorem dX12_readChain_244 : decode cX12_readChain 244 = .ok (.bipush 48, 2) := by decide +kernel
theorem dX12_readChain_246 : decode cX12_readChain 246 = .ok (.isub, 1) := by decide +kernel
theorem dX12_readChain_247 : decode cX12_readChain 247 = .ok (.istore 5, 2) := by decide +kernel
theorem dX12_readChain_249 : decode cX12_readChain 249 = .ok (.iinc 3 1, 3) := by decide +kernel
theorem dX12_readChain_252 : decode cX12_readChain 252 = .ok (.aload_n 0, 1) := by decide +kernel
theorem dX12_readChain_253 : decode cX12_readChain 253 = .ok (.getfield 107, 3) := by decide +kernel
theorem dX12_readChain_256 : decode cX12_readChain 256 = .ok (.iload_n 2, 1) := by decide +kernel
theorem dX12_readChain_257 : decode cX12_readChain 257 = .ok (.iload 4, 2) := by decide +kernel
theorem dX12_readChain_259 : decode cX12_readChain 259 = .ok (.iload 5, 2) := by decide +kernel
theorem dX12_readChain_261 : decode cX12_readChain 261 = .ok (.imul, 1) := by decide +kernel
theorem dX12_readChain_262 : decode cX12_readChain 262 = .ok (.iastore, 1) := by decide +kernel
theorem dX12_readChain_263 : decode cX12_readChain 263 = .ok (.iconst 5, 1) := by decide +kernel
theorem dX12_readChain_264 : decode cX12_readChain 264 = .ok (.istore_n 1, 1) := by decide +kernel
theorem dX12_readChain_265 : decode cX12_readChain 265 = .ok (.goto 37, 3) := by decide +kernel
theorem dX12_readChain_268 : decode cX12_readChain 268 = .ok (.iload_n 1, 1) := by decide +kernel
theorem dX12_readChain_269 : decode cX12_readChain 269 = .ok (.iconst 5, 1) := by decide +kernel
theorem dX12_readChain_270 : decode cX12_readChain 270 = .ok (.if_icmp .ne 29, 3) := by decide +kernel
theorem dX12_readChain_273 : decode cX12_readChain 273 = .ok (.iload_n 2, 1) := by decide +kernel
theorem dX12_readChain_274 : decode cX12_readChain 274 = .ok (.ifCond .ne 25, 3) := by decide +kernel
theorem dX12_readChain_277 : decode cX12_readChain 277 = .ok (.iload 8, 2) := by decide +kernel
theorem dX12_readChain_279 : decode cX12_readChain 279 = .ok (.bipush 126, 2) := by decide +kernel
theorem dX12_readChain_281 : decode cX12_readChain 281 = .ok (.if_icmp .ne 18, 3) := by decide +kernel
theorem dX12_readChain_284 : decode cX12_readChain 284 = .ok (.iconst 1, 1) := by decide +kernel
theorem dX12_readChain_285 : decode cX12_readChain 285 = .ok (.istore_n 2, 1) := by decide +kernel
theorem dX12_readChain_286 : decode cX12_readChain 286 = .ok (.iconst 3, 1) := by decide +kernel
theorem dX12_readChain_287 : decode cX12_readChain 287 = .ok (.istore_n 1, 1) := by decide +kernel
theorem dX12_readChain_288 : decode cX12_readChain 288 = .ok (.iconst 1, 1) := by decide +kernel
theorem dX12_readChain_289 : decode cX12_readChain 289 = .ok (.istore 4, 2) := by decide +kernel
theorem dX12_readChain_291 : decode cX12_readChain 291 = .ok (.iconst 0, 1) := by decide +kernel
theorem dX12_readChain_292 : decode cX12_readChain 292 = .ok (.istore 5, 2) := by decide +kernel
theorem dX12_readChain_294 : decode cX12_readChain 294 = .ok (.iconst 0, 1) := by decide +kernel
theorem dX12_readChain_295 : decode cX12_readChain 295 = .ok (.istore_n 3, 1) := by decide +kernel
theorem dX12_readChain_296 : decode cX12_readChain 296 = .ok (.goto 6, 3) := by decide +kernel
theorem dX12_readChain_299 : decode cX12_readChain 299 = .ok (.iconst 0, 1) := by decide +kernel
theorem dX12_readChain_300 : decode cX12_readChain 300 = .ok (.istore 7, 2) := by decide +kernel
theorem dX12_readChain_302 : decode cX12_readChain 302 = .ok (.iload 6, 2) := by decide +kernel
theorem dX12_readChain_304 : decode cX12_readChain 304 = .ok (.iload 7, 2) := by decide +kernel
theorem dX12_readChain_306 : decode cX12_readChain 306 = .ok (.ifCond .eq 7, 3) := by decide +kernel
theorem dX12_readChain_309 : decode cX12_readChain 309 = .ok (.iconst 1, 1) := by decide +kernel
theorem dX12_readChain_310 : decode cX12_readChain 310 = .ok (.goto 4, 3) := by decide +kernel
theorem dX12_readChain_313 : decode cX12_readChain 313 = .ok (.iconst 0, 1) := by decide +kernel
theorem dX12_readChain_314 : decode cX12_readChain 314 = .ok (.iadd, 1) := by decide +kernel
theorem dX12_readChain_315 : decode cX12_readChain 315 = .ok (.istore 6, 2) := by decide +kernel
theorem dX12_readChain_317 : decode cX12_readChain 317 = .ok (.goto (-294), 3) := by decide +kernel
theorem dX12_readChain_320 : decode cX12_readChain 320 = .ok (.aload_n 0, 1) := by decide +kernel
theorem dX12_readChain_321 : decode cX12_readChain 321 = .ok (.iload 6, 2) := by decide +kernel
theorem dX12_readChain_323 : decode cX12_readChain 323 = .ok (.putfield 176, 3) := by decide +kernel
theorem dX12_readChain_326 : decode cX12_readChain 326 = .ok (.aload_n 0, 1) := by decide +kernel
theorem dX12_readChain_327 : decode cX12_readChain 327 = .ok (.iload 6, 2) := by decide +kernel
theorem dX12_readChain_329 : decode cX12_readChain 329 = .ok (.aload_n 0, 1) := by decide +kernel
theorem dX12_readChain_330 : decode cX12_readChain 330 = .ok (.getfield 170, 3) := by decide +kernel
theorem dX12_readChain_333 : decode cX12_readChain 333 = .ok (.if_icmp .ne 17, 3) := by decide +kernel
theorem dX12_readChain_336 : decode cX12_readChain 336 = .ok (.iload_n 1, 1) := by decide +kernel
theorem dX12_readChain_337 : decode cX12_readChain 337 = .ok (.iconst 5, 1) := by decide +kernel
theorem dX12_readChain_338 : decode cX12_readChain 338 = .ok (.if_icmp .ne 12, 3) := by decide +kernel
theorem dX12_readChain_341 : decode cX12_readChain 341 = .ok (.iload_n 2, 1) := by decide +kernel
theorem dX12_readChain_342 : decode cX12_readChain 342 = .ok (.iconst 1, 1) := by decide +kernel
theorem dX12_readChain_343 : decode cX12_readChain 343 = .ok (.if_icmp .ne 7, 3) := by decide +kernel
theorem dX12_readChain_346 : decode cX12_readChain 346 = .ok (.iconst 1, 1) := by decide +kernel
theorem dX12_readChain_347 : decode cX12_readChain 347 = .ok (.goto 4, 3) := by decide +kernel
theorem dX12_readChain_350 : decode cX12_readChain 350 = .ok (.iconst 0, 1) := by decide +kernel
theorem dX12_readChain_351 : decode cX12_readChain 351 = .ok (.putfield 179, 3) := by decide +kernel
theorem dX12_readChain_354 : decode cX12_readChain 354 = .ok (.return_, 1) := by decide +kernel
theorem cd_150 (G : ZG) (d : Nat) (K : ZKt) (F : ZFt) (hT : zt5 G.2.2.2) : CS G RX12 cX12_readChain 10 d K (none) [] (fun _ => []) 0 (bd_150 G.2.2.2 K F) := by
  unfold bd_150
  exact (CS.seq 354 (CS.seq 2 (CS.decI_n (CX.pure (CE.iconst kI_0 dX12_readChain_0 zhd)) rfl (by decide) dX12_readChain_1 zhd)
  (CS.seq 4 (CS.decI_n (CX.pure (CE.iconst kI_0 dX12_readChain_2 zhd)) rfl (by decide) dX12_readChain_3 zhd)
  (CS.seq 6 (CS.decI_n (CX.pure (CE.iconst kI_0 dX12_readChain_4 zhd)) rfl (by decide) dX12_readChain_5 zhd)
  (CS.seq 9 (CS.decI (CX.pure (CE.iconst kI_1 dX12_readChain_6 zhd)) (by decide) dX12_readChain_7 zhd)
  (CS.seq 12 (CS.decI (CX.pure (CE.iconst kI_0 dX12_readChain_9 zhd)) (by decide) dX12_readChain_10 zhd)
  (CS.seq 15 (CS.decI (CX.pure (CE.iconst kI_0 dX12_readChain_12 zhd)) (by decide) dX12_readChain_13 zhd)
  (CS.seq 18 (CS.decI (CX.pure (CE.iconst kI_1 dX12_readChain_15 zhd)) (by decide) dX12_readChain_16 zhd)
  (CS.seq 23 (CS.put (CE.aload_n rfl dX12_readChain_18 zhd) (CX.pure (CE.iconst kI_0 dX12_readChain_19 zhd)) fp_X12_173 rfl dX12_readChain_20 zhd)
  (CS.seq 320 (CS.whl (T := 37) (F := 320) (p1 := 317) (CD.pure (CC.and (CC.icmp_lt_F (T := 32) (F := 320) (CE.iload dX12_readChain_23 zhd) (CE.getI (CE.aload_n rfl dX12_readChain_25 zhd) fs_X12_170 dX12_readChain_26 zhd) dX12_readChain_29 rfl rfl) (CC.if_ne_F (T := 37) (F := 320) (CE.iload dX12_readChain_32 zhd) dX12_readChain_34 rfl rfl)))
  (CS.scope (CS.seq 46 (CS.decI (CX.pure (CE.aldI (CE.getR (CE.aload_n rfl dX12_readChain_37 zhd) fs_X12_28 dX12_readChain_38 zhd) (CE.iload dX12_readChain_41 zhd) (Or.inr ⟨Or.inl rfl, dX12_readChain_43⟩) zhd)) (by decide) dX12_readChain_44 zhd)
  (CS.seq 57 (CS.decI (CX.pure (CE.callS (by decide) (CA.int (CE.iload dX12_readChain_46 zhd) (CA.int (CE.bipush kB_48 dX12_readChain_48 zhd) (CA.int (CE.bipush kB_57 dX12_readChain_50 zhd) CA.nil))) zi_135 cs_X12_142 (fun _ => rfl) dX12_readChain_52 zhd)) (by decide) dX12_readChain_55 zhd)
  (CS.seq 302 (CS.if2 (T := 89) (F := 115) (p1 := 112) (q := 302) (CD.pure (CC.and (CC.or (CC.if_eq_T (T := 75) (F := 61) (CE.iload_n rfl dX12_readChain_57 zhd) dX12_readChain_58 rfl rfl) (CC.and (CC.icmp_eq_F (T := 66) (F := 115) (CE.iload_n rfl dX12_readChain_61 zhd) (CE.iconst kI_2 dX12_readChain_62 zhd) dX12_readChain_63 rfl rfl) (CC.icmp_lt_F (T := 75) (F := 115) (CE.getI (CE.aload_n rfl dX12_readChain_66 zhd) fs_X12_173 dX12_readChain_67 zhd) (CE.bipush kB_6 dX12_readChain_70 zhd) dX12_readChain_72 rfl rfl))) (CC.or (CC.icmp_eq_T (T := 89) (F := 82) (CE.iload dX12_readChain_75 zhd) (CE.bipush kB_43 dX12_readChain_77 zhd) dX12_readChain_79 rfl rfl) (CC.icmp_eq_F (T := 89) (F := 115) (CE.iload dX12_readChain_82 zhd) (CE.bipush kB_45 dX12_readChain_84 zhd) dX12_readChain_86 rfl rfl)))) (CS.seq 110 (CS.st (CE.getR (CE.aload_n rfl dX12_readChain_89 zhd) fs_X12_104 dX12_readChain_90 zhd) (CX.pure (CE.getI (CE.aload_n rfl dX12_readChain_93 zhd) fs_X12_173 dX12_readChain_94 zhd)) (CX.pure (CE.tern (T := 104) (F := 108) (p1 := 105) (q := 109) (CC.icmp_eq_F (T := 104) (F := 108) (CE.iload dX12_readChain_97 zhd) (CE.bipush kB_43 dX12_readChain_99 zhd) dX12_readChain_101 rfl rfl) (CE.iconst kI_1 dX12_readChain_104 zhd) zex2 dX12_readChain_105 rfl zhd (CE.iconst kI_m1 dX12_readChain_108 zhd))) (Or.inl ⟨rfl, dX12_readChain_109⟩) zhd)
  (CS.setI_n (CX.pure (CE.iconst kI_1 dX12_readChain_110 zhd)) rfl (by decide) dX12_readChain_111 zhd)) dX12_readChain_112 rfl zhd
  (CS.if2 (T := 132) (F := 161) (p1 := 158) (q := 302) (CD.pure (CC.and (CC.icmp_eq_F (T := 120) (F := 161) (CE.iload_n rfl dX12_readChain_115 zhd) (CE.iconst kI_1 dX12_readChain_116 zhd) dX12_readChain_117 rfl rfl) (CC.if_ne_F (T := 132) (F := 161) (CE.callS (by decide) (CA.int (CE.iload dX12_readChain_120 zhd) (CA.int (CE.bipush kB_97 dX12_readChain_122 zhd) (CA.int (CE.bipush kB_104 dX12_readChain_124 zhd) CA.nil))) zi_135 cs_X12_142 (fun _ => rfl) dX12_readChain_126 zhd) dX12_readChain_129 rfl rfl))) (CS.seq 146 (CS.st (CE.getR (CE.aload_n rfl dX12_readChain_132 zhd) fs_X12_101 dX12_readChain_133 zhd) (CX.pure (CE.getI (CE.aload_n rfl dX12_readChain_136 zhd) fs_X12_173 dX12_readChain_137 zhd)) (CX.pure (CE.isub (CE.iload dX12_readChain_140 zhd) (CE.bipush kB_97 dX12_readChain_142 zhd) dX12_readChain_144 zhd)) (Or.inl ⟨rfl, dX12_readChain_145⟩) zhd)
  (CS.seq 156 (CS.upd (CE.aload_n rfl dX12_readChain_146 zhd) dX12_readChain_147 dX12_readChain_148 (CE.iconst kI_1 dX12_readChain_151 zhd) (Or.inl ⟨rfl, dX12_readChain_152⟩) fs_X12_173 fp_X12_173 dX12_readChain_153 zhd)
  (CS.setI_n (CX.pure (CE.iconst kI_2 dX12_readChain_156 zhd)) rfl (by decide) dX12_readChain_157 zhd))) dX12_readChain_158 rfl zhd
  (CS.if2 (T := 173) (F := 186) (p1 := 183) (q := 302) (CD.pure (CC.and (CC.icmp_eq_F (T := 166) (F := 186) (CE.iload_n rfl dX12_readChain_161 zhd) (CE.iconst kI_2 dX12_readChain_162 zhd) dX12_readChain_163 rfl rfl) (CC.icmp_eq_F (T := 173) (F := 186) (CE.iload dX12_readChain_166 zhd) (CE.bipush kB_61 dX12_readChain_168 zhd) dX12_readChain_170 rfl rfl))) (CS.seq 175 (CS.setI_n (CX.pure (CE.iconst kI_3 dX12_readChain_173 zhd)) rfl (by decide) dX12_readChain_174 zhd)
  (CS.seq 178 (CS.setI (CX.pure (CE.iconst kI_1 dX12_readChain_175 zhd)) (by decide) dX12_readChain_176 zhd)
  (CS.seq 181 (CS.setI (CX.pure (CE.iconst kI_0 dX12_readChain_178 zhd)) (by decide) dX12_readChain_179 zhd)
  (CS.setI_n (CX.pure (CE.iconst kI_0 dX12_readChain_181 zhd)) rfl (by decide) dX12_readChain_182 zhd)))) dX12_readChain_183 rfl zhd
  (CS.if2 (T := 198) (F := 206) (p1 := 203) (q := 302) (CD.pure (CC.and (CC.icmp_eq_F (T := 191) (F := 206) (CE.iload_n rfl dX12_readChain_186 zhd) (CE.iconst kI_3 dX12_readChain_187 zhd) dX12_readChain_188 rfl rfl) (CC.icmp_eq_F (T := 198) (F := 206) (CE.iload dX12_readChain_191 zhd) (CE.bipush kB_45 dX12_readChain_193 zhd) dX12_readChain_195 rfl rfl))) (CS.seq 201 (CS.setI (CX.pure (CE.iconst kI_m1 dX12_readChain_198 zhd)) (by decide) dX12_readChain_199 zhd)
  (CS.setI_n (CX.pure (CE.iconst kI_4 dX12_readChain_201 zhd)) rfl (by decide) dX12_readChain_202 zhd)) dX12_readChain_203 rfl zhd
  (CS.if2 (T := 236) (F := 268) (p1 := 265) (q := 302) (CD.pure (CC.or (CC.and (CC.or (CC.icmp_eq_T (T := 216) (F := 211) (CE.iload_n rfl dX12_readChain_206 zhd) (CE.iconst kI_3 dX12_readChain_207 zhd) dX12_readChain_208 rfl rfl) (CC.icmp_eq_F (T := 216) (F := 221) (CE.iload_n rfl dX12_readChain_211 zhd) (CE.iconst kI_4 dX12_readChain_212 zhd) dX12_readChain_213 rfl rfl)) (CC.if_ne_T (T := 236) (F := 221) (CE.iload dX12_readChain_216 zhd) dX12_readChain_218 rfl rfl)) (CC.and (CC.and (CC.icmp_eq_F (T := 226) (F := 268) (CE.iload_n rfl dX12_readChain_221 zhd) (CE.iconst kI_5 dX12_readChain_222 zhd) dX12_readChain_223 rfl rfl) (CC.if_ne_F (T := 231) (F := 268) (CE.iload dX12_readChain_226 zhd) dX12_readChain_228 rfl rfl)) (CC.icmp_lt_F (T := 236) (F := 268) (CE.iload_n rfl dX12_readChain_231 zhd) (CE.iconst kI_4 dX12_readChain_232 zhd) dX12_readChain_233 rfl rfl)))) (CS.seq 249 (CS.setI (CX.pure (CE.isub (CE.iadd (CE.imul (CE.bipush kB_10 dX12_readChain_236 zhd) (CE.iload dX12_readChain_238 zhd) dX12_readChain_240 zhd) (CE.iload dX12_readChain_241 zhd) dX12_readChain_243 zhd) (CE.bipush kB_48 dX12_readChain_244 zhd) dX12_readChain_246 zhd)) (by decide) dX12_readChain_247 zhd)
  (CS.seq 252 (CS.inc kI_1 (by decide) dX12_readChain_249 zhd)
  (CS.seq 263 (CS.st (CE.getR (CE.aload_n rfl dX12_readChain_252 zhd) fs_X12_107 dX12_readChain_253 zhd) (CX.pure (CE.iload_n rfl dX12_readChain_256 zhd)) (CX.pure (CE.imul (CE.iload dX12_readChain_257 zhd) (CE.iload dX12_readChain_259 zhd) dX12_readChain_261 zhd)) (Or.inl ⟨rfl, dX12_readChain_262⟩) zhd)
  (CS.setI_n (CX.pure (CE.iconst kI_5 dX12_readChain_263 zhd)) rfl (by decide) dX12_readChain_264 zhd)))) dX12_readChain_265 rfl zhd
  (CS.if2 (T := 284) (F := 299) (p1 := 296) (q := 302) (CD.pure (CC.and (CC.and (CC.icmp_eq_F (T := 273) (F := 299) (CE.iload_n rfl dX12_readChain_268 zhd) (CE.iconst kI_5 dX12_readChain_269 zhd) dX12_readChain_270 rfl rfl) (CC.if_eq_F (T := 277) (F := 299) (CE.iload_n rfl dX12_readChain_273 zhd) dX12_readChain_274 rfl rfl)) (CC.icmp_eq_F (T := 284) (F := 299) (CE.iload dX12_readChain_277 zhd) (CE.bipush kB_126 dX12_readChain_279 zhd) dX12_readChain_281 rfl rfl))) (CS.seq 286 (CS.setI_n (CX.pure (CE.iconst kI_1 dX12_readChain_284 zhd)) rfl (by decide) dX12_readChain_285 zhd)
  (CS.seq 288 (CS.setI_n (CX.pure (CE.iconst kI_3 dX12_readChain_286 zhd)) rfl (by decide) dX12_readChain_287 zhd)
  (CS.seq 291 (CS.setI (CX.pure (CE.iconst kI_1 dX12_readChain_288 zhd)) (by decide) dX12_readChain_289 zhd)
  (CS.seq 294 (CS.setI (CX.pure (CE.iconst kI_0 dX12_readChain_291 zhd)) (by decide) dX12_readChain_292 zhd)
  (CS.setI_n (CX.pure (CE.iconst kI_0 dX12_readChain_294 zhd)) rfl (by decide) dX12_readChain_295 zhd))))) dX12_readChain_296 rfl zhd
  (CS.setI (CX.pure (CE.iconst kI_0 dX12_readChain_299 zhd)) (by decide) dX12_readChain_300 zhd)))))))
  (CS.setI (CX.pure (CE.iadd (CE.iload dX12_readChain_302 zhd) (CE.tern (T := 309) (F := 313) (p1 := 310) (q := 314) (CC.if_ne_F (T := 309) (F := 313) (CE.iload dX12_readChain_304 zhd) dX12_readChain_306 rfl rfl) (CE.iconst kI_1 dX12_readChain_309 zhd) zex2 dX12_readChain_310 rfl zhd (CE.iconst kI_0 dX12_readChain_313 zhd)) dX12_readChain_314 zhd)) (by decide) dX12_readChain_315 zhd))))) dX12_readChain_317 rfl zhd)
  (CS.seq 326 (CS.put (CE.aload_n rfl dX12_readChain_320 zhd) (CX.pure (CE.iload dX12_readChain_321 zhd)) fp_X12_176 rfl dX12_readChain_323 zhd)
  (CS.put (CE.aload_n rfl dX12_readChain_326 zhd) (CX.pure (CE.bool (T := 346) (F := 350) (q := 351) (CC.and (CC.and (CC.icmp_eq_F (T := 336) (F := 350) (CE.iload dX12_readChain_327 zhd) (CE.getI (CE.aload_n rfl dX12_readChain_329 zhd) fs_X12_170 dX12_readChain_330 zhd) dX12_readChain_333 rfl rfl) (CC.icmp_eq_F (T := 341) (F := 350) (CE.iload_n rfl dX12_readChain_336 zhd) (CE.iconst kI_5 dX12_readChain_337 zhd) dX12_readChain_338 rfl rfl)) (CC.icmp_eq_F (T := 346) (F := 350) (CE.iload_n rfl dX12_readChain_341 zhd) (CE.iconst kI_1 dX12_readChain_342 zhd) dX12_readChain_343 rfl rfl)) dX12_readChain_346 rfl dX12_readChain_347 rfl zhd dX12_readChain_350 zhd)) fp_X12_179 rfl dX12_readChain_351 zhd)))))))))))
  (CS.retV dX12_readChain_354))
theorem dX12_fault_0 : decode cX12_fault 0 = .ok (.aload_n 0, 1) := by decide +kernel
theorem dX12_fault_1 : decode cX12_fault 1 = .ok (.invokevirtual 183, 3) := by decide +kernel
theorem dX12_fault_4 : decode cX12_fault 4 = .ok (.aload_n 0, 1) := by decide +kernel
theorem dX12_fault_5 : decode cX12_fault 5 = .ok (.getfield 176, 3) := by decide +kernel
theorem dX12_fault_8 : decode cX12_fault 8 = .ok (.ireturn, 1) := by decide +kernel
theorem cd_151 (G : ZG) (d : Nat) (K : ZKt) (F : ZFt) (hT : zt5 G.2.2.2) : CS G RX12 cX12_fault 1 d K (some .int) [] (fun _ => []) 0 (bd_151 G.2.2.2 K F) := by
  unfold bd_151
  exact (CS.seq 4 (CS.callV (CA.ref (CE.aload_n rfl dX12_fault_0 zhd) CA.nil) zi_150 cv_X12_183 (fun _ => rfl) dX12_fault_1 zhd)
  (CS.retI (CX.pure (CE.getI (CE.aload_n rfl dX12_fault_4 zhd) fs_X12_176 dX12_fault_5 zhd)) dX12_fault_8))
theorem dX12_chain_0 : decode cX12_chain 0 = .ok (.aload_n 0, 1) := by decide +kernel
theorem dX12_chain_1 : decode cX12_chain 1 = .ok (.invokevirtual 183, 3) := by decide +kernel
theorem dX12_chain_4 : decode cX12_chain 4 = .ok (.aload_n 0, 1) := by decide +kernel
theorem dX12_chain_5 : decode cX12_chain 5 = .ok (.getfield 179, 3) := by decide +kernel
theorem dX12_chain_8 : decode cX12_chain 8 = .ok (.ifCond .ne 6, 3) := by decide +kernel
theorem dX12_chain_11 : decode cX12_chain 11 = .ok (.bipush (-103), 2) := by decide +kernel
theorem dX12_chain_13 : decode cX12_chain 13 = .ok (.ireturn, 1) := by decide +kernel
theorem dX12_chain_14 : decode cX12_chain 14 = .ok (.aload_n 0, 1) := by decide +kernel
theorem dX12_chain_15 : decode cX12_chain 15 = .ok (.getfield 107, 3) := by decide +kernel
theorem dX12_chain_18 : decode cX12_chain 18 = .ok (.iconst 0, 1) := by decide +kernel
theorem dX12_chain_19 : decode cX12_chain 19 = .ok (.iaload, 1) := by decide +kernel
theorem dX12_chain_20 : decode cX12_chain 20 = .ok (.aload_n 0, 1) := by decide +kernel
theorem dX12_chain_21 : decode cX12_chain 21 = .ok (.getfield 107, 3) := by decide +kernel
theorem dX12_chain_24 : decode cX12_chain 24 = .ok (.iconst 1, 1) := by decide +kernel
theorem dX12_chain_25 : decode cX12_chain 25 = .ok (.iaload, 1) := by decide +kernel
theorem dX12_chain_26 : decode cX12_chain 26 = .ok (.if_icmp .le 6, 3) := by decide +kernel
theorem dX12_chain_29 : decode cX12_chain 29 = .ok (.bipush (-102), 2) := by decide +kernel
theorem dX12_chain_31 : decode cX12_chain 31 = .ok (.ireturn, 1) := by decide +kernel
theorem dX12_chain_32 : decode cX12_chain 32 = .ok (.aload_n 0, 1) := by decide +kernel
theorem dX12_chain_33 : decode cX12_chain 33 = .ok (.getfield 186, 3) := by decide +kernel
theorem dX12_chain_36 : decode cX12_chain 36 = .ok (.bipush 6, 2) := by decide +kernel
theorem dX12_chain_38 : decode cX12_chain 38 = .ok (.if_icmp .ne 6, 3) := by decide +kernel
theorem dX12_chain_41 : decode cX12_chain 41 = .ok (.bipush (-104), 2) := by decide +kernel
theorem dX12_chain_43 : decode cX12_chain 43 = .ok (.ireturn, 1) := by decide +kernel
theorem dX12_chain_44 : decode cX12_chain 44 = .ok (.iconst 0, 1) := by decide +kernel
theorem dX12_chain_45 : decode cX12_chain 45 = .ok (.istore_n 1, 1) := by decide +kernel
theorem dX12_chain_46 : decode cX12_chain 46 = .ok (.iload_n 1, 1) := by decide +kernel
theorem dX12_chain_47 : decode cX12_chain 47 = .ok (.aload_n 0, 1) := by decide +kernel
theorem dX12_chain_48 : decode cX12_chain 48 = .ok (.getfield 173, 3) := by decide +kernel
theorem dX12_chain_51 : decode cX12_chain 51 = .ok (.if_icmp .ge 49, 3) := by decide +kernel
theorem dX12_chain_54 : decode cX12_chain 54 = .ok (.aload_n 0, 1) := by decide +kernel
theorem dX12_chain_55 : decode cX12_chain 55 = .ok (.getfield 35, 3) := by decide +kernel
theorem dX12_chain_58 : decode cX12_chain 58 = .ok (.bipush 6, 2) := by decide +kernel
theorem dX12_chain_60 : decode cX12_chain 60 = .ok (.aload_n 0, 1) := by decide +kernel
theorem dX12_chain_61 : decode cX12_chain 61 = .ok (.getfield 186, 3) := by decide +kernel
theorem dX12_chain_64 : decode cX12_chain 64 = .ok (.imul, 1) := by decide +kernel
theorem dX12_chain_65 : decode cX12_chain 65 = .ok (.iload_n 1, 1) := by decide +kernel
theorem dX12_chain_66 : decode cX12_chain 66 = .ok (.iadd, 1) := by decide +kernel
theorem dX12_chain_67 : decode cX12_chain 67 = .ok (.aload_n 0, 1) := by decide +kernel
theorem dX12_chain_68 : decode cX12_chain 68 = .ok (.getfield 101, 3) := by decide +kernel
theorem dX12_chain_71 : decode cX12_chain 71 = .ok (.iload_n 1, 1) := by decide +kernel
theorem dX12_chain_72 : decode cX12_chain 72 = .ok (.iaload, 1) := by decide +kernel
theorem dX12_chain_73 : decode cX12_chain 73 = .ok (.iastore, 1) := by decide +kernel
theorem dX12_chain_74 : decode cX12_chain 74 = .ok (.aload_n 0, 1) := by decide +kernel
theorem dX12_chain_75 : decode cX12_chain 75 = .ok (.getfield 38, 3) := by decide +kernel
theorem dX12_chain_78 : decode cX12_chain 78 = .ok (.bipush 6, 2) := by decide +kernel
theorem dX12_chain_80 : decode cX12_chain 80 = .ok (.aload_n 0, 1) := by decide +kernel
theorem dX12_chain_81 : decode cX12_chain 81 = .ok (.getfield 186, 3) := by decide +kernel
theorem dX12_chain_84 : decode cX12_chain 84 = .ok (.imul, 1) := by decide +kernel
theorem dX12_chain_85 : decode cX12_chain 85 = .ok (.iload_n 1, 1) := by decide +kernel
theorem dX12_chain_86 : decode cX12_chain 86 = .ok (.iadd, 1) := by decide +kernel
theorem dX12_chain_87 : decode cX12_chain 87 = .ok (.aload_n 0, 1) := by decide +kernel
theorem dX12_chain_88 : decode cX12_chain 88 = .ok (.getfield 104, 3) := by decide +kernel
theorem dX12_chain_91 : decode cX12_chain 91 = .ok (.iload_n 1, 1) := by decide +kernel
theorem dX12_chain_92 : decode cX12_chain 92 = .ok (.iaload, 1) := by decide +kernel
theorem dX12_chain_93 : decode cX12_chain 93 = .ok (.iastore, 1) := by decide +kernel
theorem dX12_chain_94 : decode cX12_chain 94 = .ok (.iinc 1 1, 3) := by decide +kernel
theorem dX12_chain_97 : decode cX12_chain 97 = .ok (.goto (-51), 3) := by decide +kernel
theorem dX12_chain_100 : decode cX12_chain 100 = .ok (.aload_n 0, 1) := by decide +kernel
theorem dX12_chain_101 : decode cX12_chain 101 = .ok (.getfield 32, 3) := by decide +kernel
theorem dX12_chain_104 : decode cX12_chain 104 = .ok (.aload_n 0, 1) := by decide +kernel
theorem dX12_chain_105 : decode cX12_chain 105 = .ok (.getfield 186, 3) := by decide +kernel
theorem dX12_chain_108 : decode cX12_chain 108 = .ok (.aload_n 0, 1) := by decide +kernel
theorem dX12_chain_109 : decode cX12_chain 109 = .ok (.getfield 173, 3) := by decide +kernel
theorem dX12_chain_112 : decode cX12_chain 112 = .ok (.iastore, 1) := by decide +kernel
theorem dX12_chain_113 : decode cX12_chain 113 = .ok (.aload_n 0, 1) := by decide +kernel
theorem dX12_chain_114 : decode cX12_chain 114 = .ok (.getfield 41, 3) := by decide +kernel
theorem dX12_chain_117 : decode cX12_chain 117 = .ok (.aload_n 0, 1) := by decide +kernel
theorem dX12_chain_118 : decode cX12_chain 118 = .ok (.getfield 186, 3) := by decide +kernel
theorem dX12_chain_121 : decode cX12_chain 121 = .ok (.aload_n 0, 1) := by decide +kernel
theorem dX12_chain_122 : decode cX12_chain 122 = .ok (.getfield 107, 3) := by decide +kernel
theorem dX12_chain_125 : decode cX12_chain 125 = .ok (.iconst 0, 1) := by decide +kernel
theorem dX12_chain_126 : decode cX12_chain 126 = .ok (.iaload, 1) := by decide +kernel
theorem dX12_chain_127 : decode cX12_chain 127 = .ok (.iastore, 1) := by decide +kernel
theorem dX12_chain_128 : decode cX12_chain 128 = .ok (.aload_n 0, 1) := by decide +kernel
theorem dX12_chain_129 : decode cX12_chain 129 = .ok (.getfield 44, 3) := by decide +kernel
theorem dX12_chain_132 : decode cX12_chain 132 = .ok (.aload_n 0, 1) := by decide +kernel
theorem dX12_chain_133 : decode cX12_chain 133 = .ok (.getfield 186, 3) := by decide +kernel
theorem dX12_chain_136 : decode cX12_chain 136 = .ok (.aload_n 0, 1) := by decide +kernel
theorem dX12_chain_137 : decode cX12_chain 137 = .ok (.getfield 107, 3) := by decide +kernel
theorem dX12_chain_140 : decode cX12_chain 140 = .ok (.iconst 1, 1) := by decide +kernel
theorem dX12_chain_141 : decode cX12_chain 141 = .ok (.iaload, 1) := by decide +kernel
theorem dX12_chain_142 : decode cX12_chain 142 = .ok (.iastore, 1) := by decide +kernel
theorem dX12_chain_143 : decode cX12_chain 143 = .ok (.aload_n 0, 1) := by decide +kernel
theorem dX12_chain_144 : decode cX12_chain 144 = .ok (.dup, 1) := by decide +kernel
theorem dX12_chain_145 : decode cX12_chain 145 = .ok (.getfield 186, 3) := by decide +kernel
theorem dX12_chain_148 : decode cX12_chain 148 = .ok (.iconst 1, 1) := by decide +kernel
theorem dX12_chain_149 : decode cX12_chain 149 = .ok (.iadd, 1) := by decide +kernel
theorem dX12_chain_150 : decode cX12_chain 150 = .ok (.putfield 186, 3) := by decide +kernel
theorem dX12_chain_153 : decode cX12_chain 153 = .ok (.aload_n 0, 1) := by decide +kernel
theorem dX12_chain_154 : decode cX12_chain 154 = .ok (.iconst 0, 1) := by decide +kernel
theorem dX12_chain_155 : decode cX12_chain 155 = .ok (.putfield 170, 3) := by decide +kernel
theorem dX12_chain_158 : decode cX12_chain 158 = .ok (.aload_n 0, 1) := by decide +kernel
theorem dX12_chain_159 : decode cX12_chain 159 = .ok (.getfield 186, 3) := by decide +kernel
theorem dX12_chain_162 : decode cX12_chain 162 = .ok (.iconst 1, 1) := by decide +kernel
theorem dX12_chain_163 : decode cX12_chain 163 = .ok (.isub, 1) := by decide +kernel
theorem dX12_chain_164 : decode cX12_chain 164 = .ok (.ireturn, 1) := by decide +kernel
theorem cd_152 (G : ZG) (d : Nat) (K : ZKt) (F : ZFt) (hT : zt5 G.2.2.2) : CS G RX12 cX12_chain 2 d K (some .int) [] (fun _ => []) 0 (bd_152 G.2.2.2 K F) := by
  unfold bd_152
  exact (CS.seq 4 (CS.callV (CA.ref (CE.aload_n rfl dX12_chain_0 zhd) CA.nil) zi_150 cv_X12_183 (fun _ => rfl) dX12_chain_1 zhd)
  (CS.seq 14 (CS.if1 (T := 11) (F := 14) (CD.pure (CC.not (CC.if_ne_T (T := 14) (F := 11) (CE.getI (CE.aload_n rfl dX12_chain_4 zhd) fs_X12_179 dX12_chain_5 zhd) dX12_chain_8 rfl rfl))) (CS.retI (CX.pure (CE.bipush kB_m103 dX12_chain_11 zhd)) dX12_chain_13) zhd)
  (CS.seq 32 (CS.if1 (T := 29) (F := 32) (CD.pure (CC.icmp_gt_F (T := 29) (F := 32) (CE.aldI (CE.getR (CE.aload_n rfl dX12_chain_14 zhd) fs_X12_107 dX12_chain_15 zhd) (CE.iconst kI_0 dX12_chain_18 zhd) (Or.inl ⟨rfl, dX12_chain_19⟩) zhd) (CE.aldI (CE.getR (CE.aload_n rfl dX12_chain_20 zhd) fs_X12_107 dX12_chain_21 zhd) (CE.iconst kI_1 dX12_chain_24 zhd) (Or.inl ⟨rfl, dX12_chain_25⟩) zhd) dX12_chain_26 rfl rfl)) (CS.retI (CX.pure (CE.bipush kB_m102 dX12_chain_29 zhd)) dX12_chain_31) zhd)
  (CS.seq 44 (CS.if1 (T := 41) (F := 44) (CD.pure (CC.icmp_eq_F (T := 41) (F := 44) (CE.getI (CE.aload_n rfl dX12_chain_32 zhd) fs_X12_186 dX12_chain_33 zhd) (CE.bipush kB_6 dX12_chain_36 zhd) dX12_chain_38 rfl rfl)) (CS.retI (CX.pure (CE.bipush kB_m104 dX12_chain_41 zhd)) dX12_chain_43) zhd)
  (CS.seq 100 (CS.scope (CS.seq 46 (CS.decI_n (CX.pure (CE.iconst kI_0 dX12_chain_44 zhd)) rfl (by decide) dX12_chain_45 zhd)
  (CS.whl (T := 54) (F := 100) (p1 := 97) (CD.pure (CC.icmp_lt_F (T := 54) (F := 100) (CE.iload_n rfl dX12_chain_46 zhd) (CE.getI (CE.aload_n rfl dX12_chain_47 zhd) fs_X12_173 dX12_chain_48 zhd) dX12_chain_51 rfl rfl))
  (CS.seq 94 (CS.seq 74 (CS.st (CE.getR (CE.aload_n rfl dX12_chain_54 zhd) fs_X12_35 dX12_chain_55 zhd) (CX.pure (CE.iadd (CE.imul (CE.bipush kB_6 dX12_chain_58 zhd) (CE.getI (CE.aload_n rfl dX12_chain_60 zhd) fs_X12_186 dX12_chain_61 zhd) dX12_chain_64 zhd) (CE.iload_n rfl dX12_chain_65 zhd) dX12_chain_66 zhd)) (CX.pure (CE.aldI (CE.getR (CE.aload_n rfl dX12_chain_67 zhd) fs_X12_101 dX12_chain_68 zhd) (CE.iload_n rfl dX12_chain_71 zhd) (Or.inl ⟨rfl, dX12_chain_72⟩) zhd)) (Or.inl ⟨rfl, dX12_chain_73⟩) zhd)
  (CS.st (CE.getR (CE.aload_n rfl dX12_chain_74 zhd) fs_X12_38 dX12_chain_75 zhd) (CX.pure (CE.iadd (CE.imul (CE.bipush kB_6 dX12_chain_78 zhd) (CE.getI (CE.aload_n rfl dX12_chain_80 zhd) fs_X12_186 dX12_chain_81 zhd) dX12_chain_84 zhd) (CE.iload_n rfl dX12_chain_85 zhd) dX12_chain_86 zhd)) (CX.pure (CE.aldI (CE.getR (CE.aload_n rfl dX12_chain_87 zhd) fs_X12_104 dX12_chain_88 zhd) (CE.iload_n rfl dX12_chain_91 zhd) (Or.inl ⟨rfl, dX12_chain_92⟩) zhd)) (Or.inl ⟨rfl, dX12_chain_93⟩) zhd))
  (CS.inc kI_1 (by decide) dX12_chain_94 zhd)) dX12_chain_97 rfl zhd)))
  (CS.seq 113 (CS.st (CE.getR (CE.aload_n rfl dX12_chain_100 zhd) fs_X12_32 dX12_chain_101 zhd) (CX.pure (CE.getI (CE.aload_n rfl dX12_chain_104 zhd) fs_X12_186 dX12_chain_105 zhd)) (CX.pure (CE.getI (CE.aload_n rfl dX12_chain_108 zhd) fs_X12_173 dX12_chain_109 zhd)) (Or.inl ⟨rfl, dX12_chain_112⟩) zhd)
  (CS.seq 128 (CS.st (CE.getR (CE.aload_n rfl dX12_chain_113 zhd) fs_X12_41 dX12_chain_114 zhd) (CX.pure (CE.getI (CE.aload_n rfl dX12_chain_117 zhd) fs_X12_186 dX12_chain_118 zhd)) (CX.pure (CE.aldI (CE.getR (CE.aload_n rfl dX12_chain_121 zhd) fs_X12_107 dX12_chain_122 zhd) (CE.iconst kI_0 dX12_chain_125 zhd) (Or.inl ⟨rfl, dX12_chain_126⟩) zhd)) (Or.inl ⟨rfl, dX12_chain_127⟩) zhd)
  (CS.seq 143 (CS.st (CE.getR (CE.aload_n rfl dX12_chain_128 zhd) fs_X12_44 dX12_chain_129 zhd) (CX.pure (CE.getI (CE.aload_n rfl dX12_chain_132 zhd) fs_X12_186 dX12_chain_133 zhd)) (CX.pure (CE.aldI (CE.getR (CE.aload_n rfl dX12_chain_136 zhd) fs_X12_107 dX12_chain_137 zhd) (CE.iconst kI_1 dX12_chain_140 zhd) (Or.inl ⟨rfl, dX12_chain_141⟩) zhd)) (Or.inl ⟨rfl, dX12_chain_142⟩) zhd)
  (CS.seq 153 (CS.upd (CE.aload_n rfl dX12_chain_143 zhd) dX12_chain_144 dX12_chain_145 (CE.iconst kI_1 dX12_chain_148 zhd) (Or.inl ⟨rfl, dX12_chain_149⟩) fs_X12_186 fp_X12_186 dX12_chain_150 zhd)
  (CS.seq 158 (CS.put (CE.aload_n rfl dX12_chain_153 zhd) (CX.pure (CE.iconst kI_0 dX12_chain_154 zhd)) fp_X12_170 rfl dX12_chain_155 zhd)
  (CS.retI (CX.pure (CE.isub (CE.getI (CE.aload_n rfl dX12_chain_158 zhd) fs_X12_186 dX12_chain_159 zhd) (CE.iconst kI_1 dX12_chain_162 zhd) dX12_chain_163 zhd)) dX12_chain_164)))))))))))
theorem dX12_isChain_0 : decode cX12_isChain 0 = .ok (.iload_n 1, 1) := by decide +kernel
theorem dX12_isChain_1 : decode cX12_isChain 1 = .ok (.iconst 0, 1) := by decide +kernel
theorem dX12_isChain_2 : decode cX12_isChain 2 = .ok (.aload_n 0, 1) := by decide +kernel
theorem dX12_isChain_3 : decode cX12_isChain 3 = .ok (.getfield 186, 3) := by decide +kernel
theorem dX12_isChain_6 : decode cX12_isChain 6 = .ok (.iconst 1, 1) := by decide +kernel
theorem dX12_isChain_7 : decode cX12_isChain 7 = .ok (.isub, 1) := by decide +kernel
theorem dX12_isChain_8 : decode cX12_isChain 8 = .ok (.invokestatic 142, 3) := by decide +kernel
theorem dX12_isChain_11 : decode cX12_isChain 11 = .ok (.ireturn, 1) := by decide +kernel
theorem cd_153 (G : ZG) (d : Nat) (K : ZKt) (F : ZFt) (hT : zt5 G.2.2.2) : CS G RX12 cX12_isChain 2 d K (some .boolean) [] (fun _ => []) 0 (bd_153 G.2.2.2 K F) := by
  unfold bd_153
  exact (CS.retZ (CX.pure (CE.callS (by decide) (CA.int (CE.iload_n rfl dX12_isChain_0 zhd) (CA.int (CE.iconst kI_0 dX12_isChain_1 zhd) (CA.int (CE.isub (CE.getI (CE.aload_n rfl dX12_isChain_2 zhd) fs_X12_186 dX12_isChain_3 zhd) (CE.iconst kI_1 dX12_isChain_6 zhd) dX12_isChain_7 zhd) CA.nil))) zi_135 cs_X12_142 (fun _ => rfl) dX12_isChain_8 zhd)) dX12_isChain_11)
theorem dX12_gapOf_0 : decode cX12_gapOf 0 = .ok (.iconst 0, 1) := by decide +kernel
theorem dX12_gapOf_1 : decode cX12_gapOf 1 = .ok (.istore_n 2, 1) := by decide +kernel
theorem dX12_gapOf_2 : decode cX12_gapOf 2 = .ok (.iconst 0, 1) := by decide +kernel
theorem dX12_gapOf_3 : decode cX12_gapOf 3 = .ok (.istore_n 3, 1) := by decide +kernel
theorem dX12_gapOf_4 : decode cX12_gapOf 4 = .ok (.iload_n 3, 1) := by decide +kernel
theorem dX12_gapOf_5 : decode cX12_gapOf 5 = .ok (.aload_n 0, 1) := by decide +kernel
theorem dX12_gapOf_6 : decode cX12_gapOf 6 = .ok (.getfield 32, 3) := by decide +kernel
theorem dX12_gapOf_9 : decode cX12_gapOf 9 = .ok (.iload_n 1, 1) := by decide +kernel
theorem dX12_gapOf_10 : decode cX12_gapOf 10 = .ok (.iaload, 1) := by decide +kernel
theorem dX12_gapOf_11 : decode cX12_gapOf 11 = .ok (.if_icmp .ge 39, 3) := by decide +kernel
theorem dX12_gapOf_14 : decode cX12_gapOf 14 = .ok (.iload_n 2, 1) := by decide +kernel
theorem dX12_gapOf_15 : decode cX12_gapOf 15 = .ok (.aload_n 0, 1) := by decide +kernel
theorem dX12_gapOf_16 : decode cX12_gapOf 16 = .ok (.getfield 38, 3) := by decide +kernel
theorem dX12_gapOf_19 : decode cX12_gapOf 19 = .ok (.bipush 6, 2) := by decide +kernel
theorem dX12_gapOf_21 : decode cX12_gapOf 21 = .ok (.iload_n 1, 1) := by decide +kernel
theorem dX12_gapOf_22 : decode cX12_gapOf 22 = .ok (.imul, 1) := by decide +kernel
theorem dX12_gapOf_23 : decode cX12_gapOf 23 = .ok (.iload_n 3, 1) := by decide +kernel
theorem dX12_gapOf_24 : decode cX12_gapOf 24 = .ok (.iadd, 1) := by decide +kernel
theorem dX12_gapOf_25 : decode cX12_gapOf 25 = .ok (.iaload, 1) := by decide +kernel
theorem dX12_gapOf_26 : decode cX12_gapOf 26 = .ok (.aload_n 0, 1) := by decide +kernel
theorem dX12_gapOf_27 : decode cX12_gapOf 27 = .ok (.aload_n 0, 1) := by decide +kernel
theorem dX12_gapOf_28 : decode cX12_gapOf 28 = .ok (.getfield 35, 3) := by decide +kernel
theorem dX12_gapOf_31 : decode cX12_gapOf 31 = .ok (.bipush 6, 2) := by decide +kernel
theorem dX12_gapOf_33 : decode cX12_gapOf 33 = .ok (.iload_n 1, 1) := by decide +kernel
theorem dX12_gapOf_34 : decode cX12_gapOf 34 = .ok (.imul, 1) := by decide +kernel
theorem dX12_gapOf_35 : decode cX12_gapOf 35 = .ok (.iload_n 3, 1) := by decide +kernel
theorem dX12_gapOf_36 : decode cX12_gapOf 36 = .ok (.iadd, 1) := by decide +kernel
theorem dX12_gapOf_37 : decode cX12_gapOf 37 = .ok (.iaload, 1) := by decide +kernel
theorem dX12_gapOf_38 : decode cX12_gapOf 38 = .ok (.invokevirtual 157, 3) := by decide +kernel
theorem dX12_gapOf_41 : decode cX12_gapOf 41 = .ok (.imul, 1) := by decide +kernel
theorem dX12_gapOf_42 : decode cX12_gapOf 42 = .ok (.iadd, 1) := by decide +kernel
theorem dX12_gapOf_43 : decode cX12_gapOf 43 = .ok (.istore_n 2, 1) := by decide +kernel
theorem dX12_gapOf_44 : decode cX12_gapOf 44 = .ok (.iinc 3 1, 3) := by decide +kernel
theorem dX12_gapOf_47 : decode cX12_gapOf 47 = .ok (.goto (-43), 3) := by decide +kernel
theorem dX12_gapOf_50 : decode cX12_gapOf 50 = .ok (.iload_n 2, 1) := by decide +kernel
theorem dX12_gapOf_51 : decode cX12_gapOf 51 = .ok (.ireturn, 1) := by decide +kernel
theorem cd_154 (G : ZG) (d : Nat) (K : ZKt) (F : ZFt) (hT : zt5 G.2.2.2) : CS G RX12 cX12_gapOf 4 d K (some .int) [] (fun _ => []) 0 (bd_154 G.2.2.2 K F) := by
  unfold bd_154
  exact (CS.seq 2 (CS.decI_n (CX.pure (CE.iconst kI_0 dX12_gapOf_0 zhd)) rfl (by decide) dX12_gapOf_1 zhd)
  (CS.seq 50 (CS.scope (CS.seq 4 (CS.decI_n (CX.pure (CE.iconst kI_0 dX12_gapOf_2 zhd)) rfl (by decide) dX12_gapOf_3 zhd)
  (CS.whl (T := 14) (F := 50) (p1 := 47) (CD.pure (CC.icmp_lt_F (T := 14) (F := 50) (CE.iload_n rfl dX12_gapOf_4 zhd) (CE.aldI (CE.getR (CE.aload_n rfl dX12_gapOf_5 zhd) fs_X12_32 dX12_gapOf_6 zhd) (CE.iload_n rfl dX12_gapOf_9 zhd) (Or.inl ⟨rfl, dX12_gapOf_10⟩) zhd) dX12_gapOf_11 rfl rfl))
  (CS.seq 44 (CS.setI_n (CX.pure (CE.iadd (CE.iload_n rfl dX12_gapOf_14 zhd) (CE.imul (CE.aldI (CE.getR (CE.aload_n rfl dX12_gapOf_15 zhd) fs_X12_38 dX12_gapOf_16 zhd) (CE.iadd (CE.imul (CE.bipush kB_6 dX12_gapOf_19 zhd) (CE.iload_n rfl dX12_gapOf_21 zhd) dX12_gapOf_22 zhd) (CE.iload_n rfl dX12_gapOf_23 zhd) dX12_gapOf_24 zhd) (Or.inl ⟨rfl, dX12_gapOf_25⟩) zhd) (CE.callV (by decide) (CA.ref (CE.aload_n rfl dX12_gapOf_26 zhd) (CA.int (CE.aldI (CE.getR (CE.aload_n rfl dX12_gapOf_27 zhd) fs_X12_35 dX12_gapOf_28 zhd) (CE.iadd (CE.imul (CE.bipush kB_6 dX12_gapOf_31 zhd) (CE.iload_n rfl dX12_gapOf_33 zhd) dX12_gapOf_34 zhd) (CE.iload_n rfl dX12_gapOf_35 zhd) dX12_gapOf_36 zhd) (Or.inl ⟨rfl, dX12_gapOf_37⟩) zhd) CA.nil)) zi_141 cv_X12_157 (fun _ => rfl) dX12_gapOf_38 zhd) dX12_gapOf_41 zhd) dX12_gapOf_42 zhd)) rfl (by decide) dX12_gapOf_43 zhd)
  (CS.inc kI_1 (by decide) dX12_gapOf_44 zhd)) dX12_gapOf_47 rfl zhd)))
  (CS.retI (CX.pure (CE.iload_n rfl dX12_gapOf_50 zhd)) dX12_gapOf_51)))
theorem dX12_spreadOf_0 : decode cX12_spreadOf 0 = .ok (.iconst 0, 1) := by decide +kernel
theorem dX12_spreadOf_1 : decode cX12_spreadOf 1 = .ok (.istore_n 2, 1) := by decide +kernel
theorem dX12_spreadOf_2 : decode cX12_spreadOf 2 = .ok (.iconst 0, 1) := by decide +kernel
theorem dX12_spreadOf_3 : decode cX12_spreadOf 3 = .ok (.istore_n 3, 1) := by decide +kernel
theorem dX12_spreadOf_4 : decode cX12_spreadOf 4 = .ok (.iload_n 3, 1) := by decide +kernel
theorem dX12_spreadOf_5 : decode cX12_spreadOf 5 = .ok (.aload_n 0, 1) := by decide +kernel
theorem dX12_spreadOf_6 : decode cX12_spreadOf 6 = .ok (.getfield 32, 3) := by decide +kernel
theorem dX12_spreadOf_9 : decode cX12_spreadOf 9 = .ok (.iload_n 1, 1) := by decide +kernel
theorem dX12_spreadOf_10 : decode cX12_spreadOf 10 = .ok (.iaload, 1) := by decide +kernel
theorem dX12_spreadOf_11 : decode cX12_spreadOf 11 = .ok (.if_icmp .ge 33, 3) := by decide +kernel
theorem dX12_spreadOf_14 : decode cX12_spreadOf 14 = .ok (.iload_n 2, 1) := by decide +kernel
theorem dX12_spreadOf_15 : decode cX12_spreadOf 15 = .ok (.aload_n 0, 1) := by decide +kernel
theorem dX12_spreadOf_16 : decode cX12_spreadOf 16 = .ok (.getfield 19, 3) := by decide +kernel
theorem dX12_spreadOf_19 : decode cX12_spreadOf 19 = .ok (.aload_n 0, 1) := by decide +kernel
theorem dX12_spreadOf_20 : decode cX12_spreadOf 20 = .ok (.getfield 16, 3) := by decide +kernel
theorem dX12_spreadOf_23 : decode cX12_spreadOf 23 = .ok (.aload_n 0, 1) := by decide +kernel
theorem dX12_spreadOf_24 : decode cX12_spreadOf 24 = .ok (.getfield 35, 3) := by decide +kernel
theorem dX12_spreadOf_27 : decode cX12_spreadOf 27 = .ok (.bipush 6, 2) := by decide +kernel
theorem dX12_spreadOf_29 : decode cX12_spreadOf 29 = .ok (.iload_n 1, 1) := by decide +kernel
theorem dX12_spreadOf_30 : decode cX12_spreadOf 30 = .ok (.imul, 1) := by decide +kernel
theorem dX12_spreadOf_31 : decode cX12_spreadOf 31 = .ok (.iload_n 3, 1) := by decide +kernel
theorem dX12_spreadOf_32 : decode cX12_spreadOf 32 = .ok (.iadd, 1) := by decide +kernel
theorem dX12_spreadOf_33 : decode cX12_spreadOf 33 = .ok (.iaload, 1) := by decide +kernel
theorem dX12_spreadOf_34 : decode cX12_spreadOf 34 = .ok (.iaload, 1) := by decide +kernel
theorem dX12_spreadOf_35 : decode cX12_spreadOf 35 = .ok (.iaload, 1) := by decide +kernel
theorem dX12_spreadOf_36 : decode cX12_spreadOf 36 = .ok (.iadd, 1) := by decide +kernel
theorem dX12_spreadOf_37 : decode cX12_spreadOf 37 = .ok (.istore_n 2, 1) := by decide +kernel
theorem dX12_spreadOf_38 : decode cX12_spreadOf 38 = .ok (.iinc 3 1, 3) := by decide +kernel
theorem dX12_spreadOf_41 : decode cX12_spreadOf 41 = .ok (.goto (-37), 3) := by decide +kernel
theorem dX12_spreadOf_44 : decode cX12_spreadOf 44 = .ok (.iload_n 2, 1) := by decide +kernel
theorem dX12_spreadOf_45 : decode cX12_spreadOf 45 = .ok (.ireturn, 1) := by decide +kernel
theorem cd_155 (G : ZG) (d : Nat) (K : ZKt) (F : ZFt) (hT : zt5 G.2.2.2) : CS G RX12 cX12_spreadOf 4 d K (some .int) [] (fun _ => []) 0 (bd_155 G.2.2.2 K F) := by
  unfold bd_155
  exact (CS.seq 2 (CS.decI_n (CX.pure (CE.iconst kI_0 dX12_spreadOf_0 zhd)) rfl (by decide) dX12_spreadOf_1 zhd)
  (CS.seq 44 (CS.scope (CS.seq 4 (CS.decI_n (CX.pure (CE.iconst kI_0 dX12_spreadOf_2 zhd)) rfl (by decide) dX12_spreadOf_3 zhd)
  (CS.whl (T := 14) (F := 44) (p1 := 41) (CD.pure (CC.icmp_lt_F (T := 14) (F := 44) (CE.iload_n rfl dX12_spreadOf_4 zhd) (CE.aldI (CE.getR (CE.aload_n rfl dX12_spreadOf_5 zhd) fs_X12_32 dX12_spreadOf_6 zhd) (CE.iload_n rfl dX12_spreadOf_9 zhd) (Or.inl ⟨rfl, dX12_spreadOf_10⟩) zhd) dX12_spreadOf_11 rfl rfl))
  (CS.seq 38 (CS.setI_n (CX.pure (CE.iadd (CE.iload_n rfl dX12_spreadOf_14 zhd) (CE.aldI (CE.getR (CE.aload_n rfl dX12_spreadOf_15 zhd) fs_X12_19 dX12_spreadOf_16 zhd) (CE.aldI (CE.getR (CE.aload_n rfl dX12_spreadOf_19 zhd) fs_X12_16 dX12_spreadOf_20 zhd) (CE.aldI (CE.getR (CE.aload_n rfl dX12_spreadOf_23 zhd) fs_X12_35 dX12_spreadOf_24 zhd) (CE.iadd (CE.imul (CE.bipush kB_6 dX12_spreadOf_27 zhd) (CE.iload_n rfl dX12_spreadOf_29 zhd) dX12_spreadOf_30 zhd) (CE.iload_n rfl dX12_spreadOf_31 zhd) dX12_spreadOf_32 zhd) (Or.inl ⟨rfl, dX12_spreadOf_33⟩) zhd) (Or.inl ⟨rfl, dX12_spreadOf_34⟩) zhd) (Or.inl ⟨rfl, dX12_spreadOf_35⟩) zhd) dX12_spreadOf_36 zhd)) rfl (by decide) dX12_spreadOf_37 zhd)
  (CS.inc kI_1 (by decide) dX12_spreadOf_38 zhd)) dX12_spreadOf_41 rfl zhd)))
  (CS.retI (CX.pure (CE.iload_n rfl dX12_spreadOf_44 zhd)) dX12_spreadOf_45)))
theorem dX12_holdsOf_0 : decode cX12_holdsOf 0 = .ok (.aload_n 0, 1) := by decide +kernel
theorem dX12_holdsOf_1 : decode cX12_holdsOf 1 = .ok (.iload_n 1, 1) := by decide +kernel
theorem dX12_holdsOf_2 : decode cX12_holdsOf 2 = .ok (.invokevirtual 189, 3) := by decide +kernel
theorem dX12_holdsOf_5 : decode cX12_holdsOf 5 = .ok (.istore_n 2, 1) := by decide +kernel
theorem dX12_holdsOf_6 : decode cX12_holdsOf 6 = .ok (.aload_n 0, 1) := by decide +kernel
theorem dX12_holdsOf_7 : decode cX12_holdsOf 7 = .ok (.iload_n 1, 1) := by decide +kernel
theorem dX12_holdsOf_8 : decode cX12_holdsOf 8 = .ok (.invokevirtual 192, 3) := by decide +kernel
theorem dX12_holdsOf_11 : decode cX12_holdsOf 11 = .ok (.istore_n 3, 1) := by decide +kernel
theorem dX12_holdsOf_12 : decode cX12_holdsOf 12 = .ok (.iload_n 2, 1) := by decide +kernel
theorem dX12_holdsOf_13 : decode cX12_holdsOf 13 = .ok (.iload_n 3, 1) := by decide +kernel
theorem dX12_holdsOf_14 : decode cX12_holdsOf 14 = .ok (.isub, 1) := by decide +kernel
theorem dX12_holdsOf_15 : decode cX12_holdsOf 15 = .ok (.aload_n 0, 1) := by decide +kernel
theorem dX12_holdsOf_16 : decode cX12_holdsOf 16 = .ok (.getfield 41, 3) := by decide +kernel
theorem dX12_holdsOf_19 : decode cX12_holdsOf 19 = .ok (.iload_n 1, 1) := by decide +kernel
theorem dX12_holdsOf_20 : decode cX12_holdsOf 20 = .ok (.iaload, 1) := by decide +kernel
theorem dX12_holdsOf_21 : decode cX12_holdsOf 21 = .ok (.if_icmp .lt 19, 3) := by decide +kernel
theorem dX12_holdsOf_24 : decode cX12_holdsOf 24 = .ok (.iload_n 2, 1) := by decide +kernel
theorem dX12_holdsOf_25 : decode cX12_holdsOf 25 = .ok (.iload_n 3, 1) := by decide +kernel
theorem dX12_holdsOf_26 : decode cX12_holdsOf 26 = .ok (.iadd, 1) := by decide +kernel
theorem dX12_holdsOf_27 : decode cX12_holdsOf 27 = .ok (.aload_n 0, 1) := by decide +kernel
theorem dX12_holdsOf_28 : decode cX12_holdsOf 28 = .ok (.getfield 44, 3) := by decide +kernel
theorem dX12_holdsOf_31 : decode cX12_holdsOf 31 = .ok (.iload_n 1, 1) := by decide +kernel
theorem dX12_holdsOf_32 : decode cX12_holdsOf 32 = .ok (.iaload, 1) := by decide +kernel
theorem dX12_holdsOf_33 : decode cX12_holdsOf 33 = .ok (.if_icmp .gt 7, 3) := by decide +kernel
theorem dX12_holdsOf_36 : decode cX12_holdsOf 36 = .ok (.iconst 1, 1) := by decide +kernel
theorem dX12_holdsOf_37 : decode cX12_holdsOf 37 = .ok (.goto 4, 3) := by decide +kernel
theorem dX12_holdsOf_40 : decode cX12_holdsOf 40 = .ok (.iconst 0, 1) := by decide +kernel
theorem dX12_holdsOf_41 : decode cX12_holdsOf 41 = .ok (.ireturn, 1) := by decide +kernel
theorem cd_156 (G : ZG) (d : Nat) (K : ZKt) (F : ZFt) (hT : zt5 G.2.2.2) : CS G RX12 cX12_holdsOf 4 d K (some .boolean) [] (fun _ => []) 0 (bd_156 G.2.2.2 K F) := by
  unfold bd_156
  exact (CS.seq 6 (CS.decI_n (CX.pure (CE.callV (by decide) (CA.ref (CE.aload_n rfl dX12_holdsOf_0 zhd) (CA.int (CE.iload_n rfl dX12_holdsOf_1 zhd) CA.nil)) zi_154 cv_X12_189 (fun _ => rfl) dX12_holdsOf_2 zhd)) rfl (by decide) dX12_holdsOf_5 zhd)
  (CS.seq 12 (CS.decI_n (CX.pure (CE.callV (by decide) (CA.ref (CE.aload_n rfl dX12_holdsOf_6 zhd) (CA.int (CE.iload_n rfl dX12_holdsOf_7 zhd) CA.nil)) zi_155 cv_X12_192 (fun _ => rfl) dX12_holdsOf_8 zhd)) rfl (by decide) dX12_holdsOf_11 zhd)
  (CS.retZ (CX.pure (CE.bool (T := 36) (F := 40) (q := 41) (CC.and (CC.icmp_ge_F (T := 24) (F := 40) (CE.isub (CE.iload_n rfl dX12_holdsOf_12 zhd) (CE.iload_n rfl dX12_holdsOf_13 zhd) dX12_holdsOf_14 zhd) (CE.aldI (CE.getR (CE.aload_n rfl dX12_holdsOf_15 zhd) fs_X12_41 dX12_holdsOf_16 zhd) (CE.iload_n rfl dX12_holdsOf_19 zhd) (Or.inl ⟨rfl, dX12_holdsOf_20⟩) zhd) dX12_holdsOf_21 rfl rfl) (CC.icmp_le_F (T := 36) (F := 40) (CE.iadd (CE.iload_n rfl dX12_holdsOf_24 zhd) (CE.iload_n rfl dX12_holdsOf_25 zhd) dX12_holdsOf_26 zhd) (CE.aldI (CE.getR (CE.aload_n rfl dX12_holdsOf_27 zhd) fs_X12_44 dX12_holdsOf_28 zhd) (CE.iload_n rfl dX12_holdsOf_31 zhd) (Or.inl ⟨rfl, dX12_holdsOf_32⟩) zhd) dX12_holdsOf_33 rfl rfl)) dX12_holdsOf_36 rfl dX12_holdsOf_37 rfl zhd dX12_holdsOf_40 zhd)) dX12_holdsOf_41)))
theorem dX12_toldOf_0 : decode cX12_toldOf 0 = .ok (.iload_n 2, 1) := by decide +kernel
theorem dX12_toldOf_1 : decode cX12_toldOf 1 = .ok (.tableswitch 90 0 5 #[39, 46, 53, 60, 66, 78], 39) := by decide +kernel
theorem dX12_toldOf_40 : decode cX12_toldOf 40 = .ok (.aload_n 0, 1) := by decide +kernel
theorem dX12_toldOf_41 : decode cX12_toldOf 41 = .ok (.getfield 32, 3) := by decide +kernel
theorem dX12_toldOf_44 : decode cX12_toldOf 44 = .ok (.iload_n 1, 1) := by decide +kernel
theorem dX12_toldOf_45 : decode cX12_toldOf 45 = .ok (.iaload, 1) := by decide +kernel
theorem dX12_toldOf_46 : decode cX12_toldOf 46 = .ok (.ireturn, 1) := by decide +kernel
theorem dX12_toldOf_47 : decode cX12_toldOf 47 = .ok (.aload_n 0, 1) := by decide +kernel
theorem dX12_toldOf_48 : decode cX12_toldOf 48 = .ok (.getfield 41, 3) := by decide +kernel
theorem dX12_toldOf_51 : decode cX12_toldOf 51 = .ok (.iload_n 1, 1) := by decide +kernel
theorem dX12_toldOf_52 : decode cX12_toldOf 52 = .ok (.iaload, 1) := by decide +kernel
theorem dX12_toldOf_53 : decode cX12_toldOf 53 = .ok (.ireturn, 1) := by decide +kernel
theorem dX12_toldOf_54 : decode cX12_toldOf 54 = .ok (.aload_n 0, 1) := by decide +kernel
theorem dX12_toldOf_55 : decode cX12_toldOf 55 = .ok (.getfield 44, 3) := by decide +kernel
theorem dX12_toldOf_58 : decode cX12_toldOf 58 = .ok (.iload_n 1, 1) := by decide +kernel
theorem dX12_toldOf_59 : decode cX12_toldOf 59 = .ok (.iaload, 1) := by decide +kernel
theorem dX12_toldOf_60 : decode cX12_toldOf 60 = .ok (.ireturn, 1) := by decide +kernel
theorem dX12_toldOf_61 : decode cX12_toldOf 61 = .ok (.aload_n 0, 1) := by decide +kernel
theorem dX12_toldOf_62 : decode cX12_toldOf 62 = .ok (.iload_n 1, 1) := by decide +kernel
theorem dX12_toldOf_63 : decode cX12_toldOf 63 = .ok (.invokevirtual 189, 3) := by decide +kernel
theorem dX12_toldOf_66 : decode cX12_toldOf 66 = .ok (.ireturn, 1) := by decide +kernel
theorem dX12_toldOf_67 : decode cX12_toldOf 67 = .ok (.aload_n 0, 1) := by decide +kernel
theorem dX12_toldOf_68 : decode cX12_toldOf 68 = .ok (.iload_n 1, 1) := by decide +kernel
theorem dX12_toldOf_69 : decode cX12_toldOf 69 = .ok (.invokevirtual 189, 3) := by decide +kernel
theorem dX12_toldOf_72 : decode cX12_toldOf 72 = .ok (.aload_n 0, 1) := by decide +kernel
theorem dX12_toldOf_73 : decode cX12_toldOf 73 = .ok (.iload_n 1, 1) := by decide +kernel
theorem dX12_toldOf_74 : decode cX12_toldOf 74 = .ok (.invokevirtual 192, 3) := by decide +kernel
theorem dX12_toldOf_77 : decode cX12_toldOf 77 = .ok (.isub, 1) := by decide +kernel
theorem dX12_toldOf_78 : decode cX12_toldOf 78 = .ok (.ireturn, 1) := by decide +kernel
theorem dX12_toldOf_79 : decode cX12_toldOf 79 = .ok (.aload_n 0, 1) := by decide +kernel
theorem dX12_toldOf_80 : decode cX12_toldOf 80 = .ok (.iload_n 1, 1) := by decide +kernel
theorem dX12_toldOf_81 : decode cX12_toldOf 81 = .ok (.invokevirtual 189, 3) := by decide +kernel
theorem dX12_toldOf_84 : decode cX12_toldOf 84 = .ok (.aload_n 0, 1) := by decide +kernel
theorem dX12_toldOf_85 : decode cX12_toldOf 85 = .ok (.iload_n 1, 1) := by decide +kernel
theorem dX12_toldOf_86 : decode cX12_toldOf 86 = .ok (.invokevirtual 192, 3) := by decide +kernel
theorem dX12_toldOf_89 : decode cX12_toldOf 89 = .ok (.iadd, 1) := by decide +kernel
theorem dX12_toldOf_90 : decode cX12_toldOf 90 = .ok (.ireturn, 1) := by decide +kernel
theorem dX12_toldOf_91 : decode cX12_toldOf 91 = .ok (.aload_n 0, 1) := by decide +kernel
theorem dX12_toldOf_92 : decode cX12_toldOf 92 = .ok (.iload_n 1, 1) := by decide +kernel
theorem dX12_toldOf_93 : decode cX12_toldOf 93 = .ok (.invokevirtual 195, 3) := by decide +kernel
theorem dX12_toldOf_96 : decode cX12_toldOf 96 = .ok (.ifCond .eq 7, 3) := by decide +kernel
theorem dX12_toldOf_99 : decode cX12_toldOf 99 = .ok (.iconst 1, 1) := by decide +kernel
theorem dX12_toldOf_100 : decode cX12_toldOf 100 = .ok (.goto 4, 3) := by decide +kernel
theorem dX12_toldOf_103 : decode cX12_toldOf 103 = .ok (.iconst 0, 1) := by decide +kernel
theorem dX12_toldOf_104 : decode cX12_toldOf 104 = .ok (.ireturn, 1) := by decide +kernel
theorem cd_157 (G : ZG) (d : Nat) (K : ZKt) (F : ZFt) (hT : zt5 G.2.2.2) : CS G RX12 cX12_toldOf 3 d K (some .int) [] (fun _ => []) 0 (bd_157 G.2.2.2 K F) := by
  unfold bd_157
  exact (CS.sw (qd := 91) (CX.pure (CE.iload_n rfl dX12_toldOf_0 zhd)) dX12_toldOf_1 rfl ⟨by decide, ⟨_, 40, rfl, rfl, (CS.retI (CX.pure (CE.aldI (CE.getR (CE.aload_n rfl dX12_toldOf_40 zhd) fs_X12_32 dX12_toldOf_41 zhd) (CE.iload_n rfl dX12_toldOf_44 zhd) (Or.inl ⟨rfl, dX12_toldOf_45⟩) zhd)) dX12_toldOf_46)⟩, ⟨by decide, ⟨_, 47, rfl, rfl, (CS.retI (CX.pure (CE.aldI (CE.getR (CE.aload_n rfl dX12_toldOf_47 zhd) fs_X12_41 dX12_toldOf_48 zhd) (CE.iload_n rfl dX12_toldOf_51 zhd) (Or.inl ⟨rfl, dX12_toldOf_52⟩) zhd)) dX12_toldOf_53)⟩, ⟨by decide, ⟨_, 54, rfl, rfl, (CS.retI (CX.pure (CE.aldI (CE.getR (CE.aload_n rfl dX12_toldOf_54 zhd) fs_X12_44 dX12_toldOf_55 zhd) (CE.iload_n rfl dX12_toldOf_58 zhd) (Or.inl ⟨rfl, dX12_toldOf_59⟩) zhd)) dX12_toldOf_60)⟩, ⟨by decide, ⟨_, 61, rfl, rfl, (CS.retI (CX.pure (CE.callV (by decide) (CA.ref (CE.aload_n rfl dX12_toldOf_61 zhd) (CA.int (CE.iload_n rfl dX12_toldOf_62 zhd) CA.nil)) zi_154 cv_X12_189 (fun _ => rfl) dX12_toldOf_63 zhd)) dX12_toldOf_66)⟩, ⟨by decide, ⟨_, 67, rfl, rfl, (CS.retI (CX.pure (CE.isub (CE.callV (by decide) (CA.ref (CE.aload_n rfl dX12_toldOf_67 zhd) (CA.int (CE.iload_n rfl dX12_toldOf_68 zhd) CA.nil)) zi_154 cv_X12_189 (fun _ => rfl) dX12_toldOf_69 zhd) (CE.callV (by decide) (CA.ref (CE.aload_n rfl dX12_toldOf_72 zhd) (CA.int (CE.iload_n rfl dX12_toldOf_73 zhd) CA.nil)) zi_155 cv_X12_192 (fun _ => rfl) dX12_toldOf_74 zhd) dX12_toldOf_77 zhd)) dX12_toldOf_78)⟩, ⟨by decide, ⟨_, 79, rfl, rfl, (CS.retI (CX.pure (CE.iadd (CE.callV (by decide) (CA.ref (CE.aload_n rfl dX12_toldOf_79 zhd) (CA.int (CE.iload_n rfl dX12_toldOf_80 zhd) CA.nil)) zi_154 cv_X12_189 (fun _ => rfl) dX12_toldOf_81 zhd) (CE.callV (by decide) (CA.ref (CE.aload_n rfl dX12_toldOf_84 zhd) (CA.int (CE.iload_n rfl dX12_toldOf_85 zhd) CA.nil)) zi_155 cv_X12_192 (fun _ => rfl) dX12_toldOf_86 zhd) dX12_toldOf_89 zhd)) dX12_toldOf_90)⟩, trivial⟩⟩⟩⟩⟩⟩ rfl (CS.retI (CX.pure (CE.tern (T := 99) (F := 103) (p1 := 100) (q := 104) (CC.if_ne_F (T := 99) (F := 103) (CE.callV (by decide) (CA.ref (CE.aload_n rfl dX12_toldOf_91 zhd) (CA.int (CE.iload_n rfl dX12_toldOf_92 zhd) CA.nil)) zi_156 cv_X12_195 (fun _ => rfl) dX12_toldOf_93 zhd) dX12_toldOf_96 rfl rfl) (CE.iconst kI_1 dX12_toldOf_99 zhd) zex2 dX12_toldOf_100 rfl zhd (CE.iconst kI_0 dX12_toldOf_103 zhd))) dX12_toldOf_104))
theorem dX12_of_0 : decode cX12_of 0 = .ok (.aload_n 0, 1) := by decide +kernel
theorem dX12_of_1 : decode cX12_of 1 = .ok (.iload_n 1, 1) := by decide +kernel
theorem dX12_of_2 : decode cX12_of 2 = .ok (.invokevirtual 198, 3) := by decide +kernel
theorem dX12_of_5 : decode cX12_of 5 = .ok (.ifCond .ne 8, 3) := by decide +kernel
theorem dX12_of_8 : decode cX12_of 8 = .ok (.ldc 201, 2) := by decide +kernel
theorem dX12_of_10 : decode cX12_of 10 = .ok (.goto 24, 3) := by decide +kernel
theorem dX12_of_13 : decode cX12_of 13 = .ok (.iload_n 2, 1) := by decide +kernel
theorem dX12_of_14 : decode cX12_of 14 = .ok (.iconst 0, 1) := by decide +kernel
theorem dX12_of_15 : decode cX12_of 15 = .ok (.bipush 6, 2) := by decide +kernel
theorem dX12_of_17 : decode cX12_of 17 = .ok (.invokestatic 142, 3) := by decide +kernel
theorem dX12_of_20 : decode cX12_of 20 = .ok (.ifCond .eq 12, 3) := by decide +kernel
theorem dX12_of_23 : decode cX12_of 23 = .ok (.aload_n 0, 1) := by decide +kernel
theorem dX12_of_24 : decode cX12_of 24 = .ok (.iload_n 1, 1) := by decide +kernel
theorem dX12_of_25 : decode cX12_of 25 = .ok (.iload_n 2, 1) := by decide +kernel
theorem dX12_of_26 : decode cX12_of 26 = .ok (.invokevirtual 202, 3) := by decide +kernel
theorem dX12_of_29 : decode cX12_of 29 = .ok (.goto 5, 3) := by decide +kernel
theorem dX12_of_32 : decode cX12_of 32 = .ok (.ldc 205, 2) := by decide +kernel
theorem dX12_of_34 : decode cX12_of 34 = .ok (.ireturn, 1) := by decide +kernel
theorem cd_158 (G : ZG) (d : Nat) (K : ZKt) (F : ZFt) (hT : zt5 G.2.2.2) : CS G RX12 cX12_of 3 d K (some .int) [] (fun _ => []) 0 (bd_158 G.2.2.2 K F) := by
  unfold bd_158
  exact (CS.retI (CX.pure (CE.tern (T := 8) (F := 13) (p1 := 10) (q := 34) (CC.not (CC.if_ne_T (T := 13) (F := 8) (CE.callV (by decide) (CA.ref (CE.aload_n rfl dX12_of_0 zhd) (CA.int (CE.iload_n rfl dX12_of_1 zhd) CA.nil)) zi_153 cv_X12_198 (fun _ => rfl) dX12_of_2 zhd) dX12_of_5 rfl rfl)) (CE.ldc lc_X12_201 dX12_of_8 zhd) zex2 dX12_of_10 rfl zhd (CE.tern (T := 23) (F := 32) (p1 := 29) (q := 34) (CC.if_ne_F (T := 23) (F := 32) (CE.callS (by decide) (CA.int (CE.iload_n rfl dX12_of_13 zhd) (CA.int (CE.iconst kI_0 dX12_of_14 zhd) (CA.int (CE.bipush kB_6 dX12_of_15 zhd) CA.nil))) zi_135 cs_X12_142 (fun _ => rfl) dX12_of_17 zhd) dX12_of_20 rfl rfl) (CE.callV (by decide) (CA.ref (CE.aload_n rfl dX12_of_23 zhd) (CA.int (CE.iload_n rfl dX12_of_24 zhd) (CA.int (CE.iload_n rfl dX12_of_25 zhd) CA.nil))) zi_157 cv_X12_202 (fun _ => rfl) dX12_of_26 zhd) zex2 dX12_of_29 rfl zhd (CE.ldc lc_X12_205 dX12_of_32 zhd)))) dX12_of_34)
