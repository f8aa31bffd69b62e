/-! code of the bodies 92 to 133 -/
theorem dX11_grade_0 : decode cX11_grade 0 = .ok (.iload_n 1, 1) := by decide +kernel
theorem dX11_grade_1 : decode cX11_grade 1 = .ok (.iconst 4, 1) := by decide +kernel
theorem dX11_grade_2 : decode cX11_grade 2 = .ok (.invokestatic 86, 3) := by decide +kernel
theorem dX11_grade_5 : decode cX11_grade 5 = .ok (.ifCond .eq 11, 3) := by decide +kernel
theorem dX11_grade_8 : decode cX11_grade 8 = .ok (.iload_n 2, 1) := by decide +kernel
theorem dX11_grade_9 : decode cX11_grade 9 = .ok (.iconst 2, 1) := by decide +kernel
theorem dX11_grade_10 : decode cX11_grade 10 = .ok (.invokestatic 86, 3) := by decide +kernel
theorem dX11_grade_13 : decode cX11_grade 13 = .ok (.ifCond .ne 6, 3) := by decide +kernel
theorem dX11_grade_16 : decode cX11_grade 16 = .ok (.bipush (-101), 2) := by decide +kernel
theorem dX11_grade_18 : decode cX11_grade 18 = .ok (.ireturn, 1) := by decide +kernel
theorem dX11_grade_19 : decode cX11_grade 19 = .ok (.iload_n 3, 1) := by decide +kernel
theorem dX11_grade_20 : decode cX11_grade 20 = .ok (.iconst 0, 1) := by decide +kernel
theorem dX11_grade_21 : decode cX11_grade 21 = .ok (.iload_n 2, 1) := by decide +kernel
theorem dX11_grade_22 : decode cX11_grade 22 = .ok (.ifCond .ne 8, 3) := by decide +kernel
theorem dX11_grade_25 : decode cX11_grade 25 = .ok (.bipush 99, 2) := by decide +kernel
theorem dX11_grade_27 : decode cX11_grade 27 = .ok (.goto 6, 3) := by decide +kernel
theorem dX11_grade_30 : decode cX11_grade 30 = .ok (.sipush 999, 3) := by decide +kernel
theorem dX11_grade_33 : decode cX11_grade 33 = .ok (.invokestatic 94, 3) := by decide +kernel
theorem dX11_grade_36 : decode cX11_grade 36 = .ok (.ifCond .ne 6, 3) := by decide +kernel
theorem dX11_grade_39 : decode cX11_grade 39 = .ok (.bipush (-102), 2) := by decide +kernel
theorem dX11_grade_41 : decode cX11_grade 41 = .ok (.ireturn, 1) := by decide +kernel
theorem dX11_grade_42 : decode cX11_grade 42 = .ok (.iload_n 2, 1) := by decide +kernel
theorem dX11_grade_43 : decode cX11_grade 43 = .ok (.ifCond .ne 13, 3) := by decide +kernel
theorem dX11_grade_46 : decode cX11_grade 46 = .ok (.aload_n 0, 1) := by decide +kernel
theorem dX11_grade_47 : decode cX11_grade 47 = .ok (.getfield 10, 3) := by decide +kernel
theorem dX11_grade_50 : decode cX11_grade 50 = .ok (.getfield 116, 3) := by decide +kernel
theorem dX11_grade_53 : decode cX11_grade 53 = .ok (.goto 10, 3) := by decide +kernel
theorem dX11_grade_56 : decode cX11_grade 56 = .ok (.aload_n 0, 1) := by decide +kernel
theorem dX11_grade_57 : decode cX11_grade 57 = .ok (.getfield 10, 3) := by decide +kernel
theorem dX11_grade_60 : decode cX11_grade 60 = .ok (.getfield 120, 3) := by decide +kernel
theorem dX11_grade_63 : decode cX11_grade 63 = .ok (.iload_n 1, 1) := by decide +kernel
theorem dX11_grade_64 : decode cX11_grade 64 = .ok (.iload_n 3, 1) := by decide +kernel
theorem dX11_grade_65 : decode cX11_grade 65 = .ok (.invokestatic 106, 3) := by decide +kernel
theorem dX11_grade_68 : decode cX11_grade 68 = .ok (.ireturn, 1) := by decide +kernel
theorem cd_92 (G : ZG) (d : Nat) (K : ZKt) (F : ZFt) (hT : zt5 G.2.2.2) : CS G RX11 cX11_grade 4 d K (some .int) [] (fun _ => []) 0 (bd_92 G.2.2.2 K F) := by
  unfold bd_92
  exact (CS.seq 19 (CS.if1 (T := 16) (F := 19) (CD.pure (CC.or (CC.not (CC.if_ne_F (T := 8) (F := 16) (CE.callS (by decide) (CA.int (CE.iload_n rfl dX11_grade_0 zhd) (CA.int (CE.iconst kI_4 dX11_grade_1 zhd) CA.nil)) zi_129 cs_X11_86 (fun _ => rfl) dX11_grade_2 zhd) dX11_grade_5 rfl rfl)) (CC.not (CC.if_ne_T (T := 19) (F := 16) (CE.callS (by decide) (CA.int (CE.iload_n rfl dX11_grade_8 zhd) (CA.int (CE.iconst kI_2 dX11_grade_9 zhd) CA.nil)) zi_129 cs_X11_86 (fun _ => rfl) dX11_grade_10 zhd) dX11_grade_13 rfl rfl)))) (CS.retI (CX.pure (CE.bipush kB_m101 dX11_grade_16 zhd)) dX11_grade_18) zhd)
  (CS.seq 42 (CS.if1 (T := 39) (F := 42) (CD.pure (CC.not (CC.if_ne_T (T := 42) (F := 39) (CE.callS (by decide) (CA.int (CE.iload_n rfl dX11_grade_19 zhd) (CA.int (CE.iconst kI_0 dX11_grade_20 zhd) (CA.int (CE.tern (T := 25) (F := 30) (p1 := 27) (q := 33) (CC.if_eq_F (T := 25) (F := 30) (CE.iload_n rfl dX11_grade_21 zhd) dX11_grade_22 rfl rfl) (CE.bipush kB_99 dX11_grade_25 zhd) zex2 dX11_grade_27 rfl zhd (CE.sipush kS_999 dX11_grade_30 zhd)) CA.nil))) zi_130 cs_X11_94 (fun _ => rfl) dX11_grade_33 zhd) dX11_grade_36 rfl rfl))) (CS.retI (CX.pure (CE.bipush kB_m102 dX11_grade_39 zhd)) dX11_grade_41) zhd)
  (CS.retI (CX.callS (by decide) (CA.ref (CE.tern (T := 46) (F := 56) (p1 := 53) (q := 63) (CC.if_eq_F (T := 46) (F := 56) (CE.iload_n rfl dX11_grade_42 zhd) dX11_grade_43 rfl rfl) (CE.getR (CE.getR (CE.aload_n rfl dX11_grade_46 zhd) fs_X11_10 dX11_grade_47 zhd) fs_X11_116 dX11_grade_50 zhd) zex2 dX11_grade_53 rfl zhd (CE.getR (CE.getR (CE.aload_n rfl dX11_grade_56 zhd) fs_X11_10 dX11_grade_57 zhd) fs_X11_120 dX11_grade_60 zhd)) (CA.int (CE.iload_n rfl dX11_grade_63 zhd) (CA.int (CE.iload_n rfl dX11_grade_64 zhd) CA.nil))) zi_131 cs_X11_106 (fun _ => rfl) dX11_grade_65 zhd) dX11_grade_68)))
theorem dX11_price_0 : decode cX11_price 0 = .ok (.iload_n 1, 1) := by decide +kernel
theorem dX11_price_1 : decode cX11_price 1 = .ok (.bipush 8, 2) := by decide +kernel
theorem dX11_price_3 : decode cX11_price 3 = .ok (.invokestatic 86, 3) := by decide +kernel
theorem dX11_price_6 : decode cX11_price 6 = .ok (.ifCond .eq 11, 3) := by decide +kernel
theorem dX11_price_9 : decode cX11_price 9 = .ok (.iload_n 2, 1) := by decide +kernel
theorem dX11_price_10 : decode cX11_price 10 = .ok (.iconst 4, 1) := by decide +kernel
theorem dX11_price_11 : decode cX11_price 11 = .ok (.invokestatic 86, 3) := by decide +kernel
theorem dX11_price_14 : decode cX11_price 14 = .ok (.ifCond .ne 6, 3) := by decide +kernel
theorem dX11_price_17 : decode cX11_price 17 = .ok (.bipush (-101), 2) := by decide +kernel
theorem dX11_price_19 : decode cX11_price 19 = .ok (.ireturn, 1) := by decide +kernel
theorem dX11_price_20 : decode cX11_price 20 = .ok (.aload_n 0, 1) := by decide +kernel
theorem dX11_price_21 : decode cX11_price 21 = .ok (.getfield 10, 3) := by decide +kernel
theorem dX11_price_24 : decode cX11_price 24 = .ok (.iload_n 1, 1) := by decide +kernel
theorem dX11_price_25 : decode cX11_price 25 = .ok (.iload_n 2, 1) := by decide +kernel
theorem dX11_price_26 : decode cX11_price 26 = .ok (.invokevirtual 123, 3) := by decide +kernel
theorem dX11_price_29 : decode cX11_price 29 = .ok (.ireturn, 1) := by decide +kernel
theorem cd_93 (G : ZG) (d : Nat) (K : ZKt) (F : ZFt) (hT : zt5 G.2.2.2) : CS G RX11 cX11_price 3 d K (some .int) [] (fun _ => []) 0 (bd_93 G.2.2.2 K F) := by
  unfold bd_93
  exact (CS.seq 20 (CS.if1 (T := 17) (F := 20) (CD.pure (CC.or (CC.not (CC.if_ne_F (T := 9) (F := 17) (CE.callS (by decide) (CA.int (CE.iload_n rfl dX11_price_0 zhd) (CA.int (CE.bipush kB_8 dX11_price_1 zhd) CA.nil)) zi_129 cs_X11_86 (fun _ => rfl) dX11_price_3 zhd) dX11_price_6 rfl rfl)) (CC.not (CC.if_ne_T (T := 20) (F := 17) (CE.callS (by decide) (CA.int (CE.iload_n rfl dX11_price_9 zhd) (CA.int (CE.iconst kI_4 dX11_price_10 zhd) CA.nil)) zi_129 cs_X11_86 (fun _ => rfl) dX11_price_11 zhd) dX11_price_14 rfl rfl)))) (CS.retI (CX.pure (CE.bipush kB_m101 dX11_price_17 zhd)) dX11_price_19) zhd)
  (CS.retI (CX.pure (CE.callV (by decide) (CA.ref (CE.getR (CE.aload_n rfl dX11_price_20 zhd) fs_X11_10 dX11_price_21 zhd) (CA.int (CE.iload_n rfl dX11_price_24 zhd) (CA.int (CE.iload_n rfl dX11_price_25 zhd) CA.nil))) zi_15 cv_X11_123 (fun _ => rfl) dX11_price_26 zhd)) dX11_price_29))
theorem dX11_counted_0 : decode cX11_counted 0 = .ok (.iload_n 1, 1) := by decide +kernel
theorem dX11_counted_1 : decode cX11_counted 1 = .ok (.bipush 8, 2) := by decide +kernel
theorem dX11_counted_3 : decode cX11_counted 3 = .ok (.invokestatic 86, 3) := by decide +kernel
theorem dX11_counted_6 : decode cX11_counted 6 = .ok (.ifCond .eq 13, 3) := by decide +kernel
theorem dX11_counted_9 : decode cX11_counted 9 = .ok (.iload_n 2, 1) := by decide +kernel
theorem dX11_counted_10 : decode cX11_counted 10 = .ok (.bipush (-4), 2) := by decide +kernel
theorem dX11_counted_12 : decode cX11_counted 12 = .ok (.iconst 4, 1) := by decide +kernel
theorem dX11_counted_13 : decode cX11_counted 13 = .ok (.invokestatic 94, 3) := by decide +kernel
theorem dX11_counted_16 : decode cX11_counted 16 = .ok (.ifCond .ne 6, 3) := by decide +kernel
theorem dX11_counted_19 : decode cX11_counted 19 = .ok (.bipush (-101), 2) := by decide +kernel
theorem dX11_counted_21 : decode cX11_counted 21 = .ok (.ireturn, 1) := by decide +kernel
theorem dX11_counted_22 : decode cX11_counted 22 = .ok (.iload_n 3, 1) := by decide +kernel
theorem dX11_counted_23 : decode cX11_counted 23 = .ok (.iconst 0, 1) := by decide +kernel
theorem dX11_counted_24 : decode cX11_counted 24 = .ok (.bipush 99, 2) := by decide +kernel
theorem dX11_counted_26 : decode cX11_counted 26 = .ok (.invokestatic 94, 3) := by decide +kernel
theorem dX11_counted_29 : decode cX11_counted 29 = .ok (.ifCond .ne 6, 3) := by decide +kernel
theorem dX11_counted_32 : decode cX11_counted 32 = .ok (.bipush (-102), 2) := by decide +kernel
theorem dX11_counted_34 : decode cX11_counted 34 = .ok (.ireturn, 1) := by decide +kernel
theorem dX11_counted_35 : decode cX11_counted 35 = .ok (.aload_n 0, 1) := by decide +kernel
theorem dX11_counted_36 : decode cX11_counted 36 = .ok (.getfield 10, 3) := by decide +kernel
theorem dX11_counted_39 : decode cX11_counted 39 = .ok (.getfield 127, 3) := by decide +kernel
theorem dX11_counted_42 : decode cX11_counted 42 = .ok (.iload_n 1, 1) := by decide +kernel
theorem dX11_counted_43 : decode cX11_counted 43 = .ok (.aaload, 1) := by decide +kernel
theorem dX11_counted_44 : decode cX11_counted 44 = .ok (.iload_n 2, 1) := by decide +kernel
theorem dX11_counted_45 : decode cX11_counted 45 = .ok (.iconst 4, 1) := by decide +kernel
theorem dX11_counted_46 : decode cX11_counted 46 = .ok (.iadd, 1) := by decide +kernel
theorem dX11_counted_47 : decode cX11_counted 47 = .ok (.iload_n 3, 1) := by decide +kernel
theorem dX11_counted_48 : decode cX11_counted 48 = .ok (.invokestatic 106, 3) := by decide +kernel
theorem dX11_counted_51 : decode cX11_counted 51 = .ok (.ireturn, 1) := by decide +kernel
theorem cd_94 (G : ZG) (d : Nat) (K : ZKt) (F : ZFt) (hT : zt5 G.2.2.2) : CS G RX11 cX11_counted 4 d K (some .int) [] (fun _ => []) 0 (bd_94 G.2.2.2 K F) := by
  unfold bd_94
  exact (CS.seq 22 (CS.if1 (T := 19) (F := 22) (CD.pure (CC.or (CC.not (CC.if_ne_F (T := 9) (F := 19) (CE.callS (by decide) (CA.int (CE.iload_n rfl dX11_counted_0 zhd) (CA.int (CE.bipush kB_8 dX11_counted_1 zhd) CA.nil)) zi_129 cs_X11_86 (fun _ => rfl) dX11_counted_3 zhd) dX11_counted_6 rfl rfl)) (CC.not (CC.if_ne_T (T := 22) (F := 19) (CE.callS (by decide) (CA.int (CE.iload_n rfl dX11_counted_9 zhd) (CA.int (CE.bipush kB_m4 dX11_counted_10 zhd) (CA.int (CE.iconst kI_4 dX11_counted_12 zhd) CA.nil))) zi_130 cs_X11_94 (fun _ => rfl) dX11_counted_13 zhd) dX11_counted_16 rfl rfl)))) (CS.retI (CX.pure (CE.bipush kB_m101 dX11_counted_19 zhd)) dX11_counted_21) zhd)
  (CS.seq 35 (CS.if1 (T := 32) (F := 35) (CD.pure (CC.not (CC.if_ne_T (T := 35) (F := 32) (CE.callS (by decide) (CA.int (CE.iload_n rfl dX11_counted_22 zhd) (CA.int (CE.iconst kI_0 dX11_counted_23 zhd) (CA.int (CE.bipush kB_99 dX11_counted_24 zhd) CA.nil))) zi_130 cs_X11_94 (fun _ => rfl) dX11_counted_26 zhd) dX11_counted_29 rfl rfl))) (CS.retI (CX.pure (CE.bipush kB_m102 dX11_counted_32 zhd)) dX11_counted_34) zhd)
  (CS.retI (CX.callS (by decide) (CA.ref (CE.aldR (CE.getR (CE.getR (CE.aload_n rfl dX11_counted_35 zhd) fs_X11_10 dX11_counted_36 zhd) fs_X11_127 dX11_counted_39 zhd) (CE.iload_n rfl dX11_counted_42 zhd) dX11_counted_43 zhd) (CA.int (CE.iadd (CE.iload_n rfl dX11_counted_44 zhd) (CE.iconst kI_4 dX11_counted_45 zhd) dX11_counted_46 zhd) (CA.int (CE.iload_n rfl dX11_counted_47 zhd) CA.nil))) zi_131 cs_X11_106 (fun _ => rfl) dX11_counted_48 zhd) dX11_counted_51)))
theorem dX11_letters_0 : decode cX11_letters 0 = .ok (.lload_n 1, 1) := by decide +kernel
theorem dX11_letters_1 : decode cX11_letters 1 = .ok (.invokestatic 131, 3) := by decide +kernel
theorem dX11_letters_4 : decode cX11_letters 4 = .ok (.istore_n 3, 1) := by decide +kernel
theorem dX11_letters_5 : decode cX11_letters 5 = .ok (.iload_n 3, 1) := by decide +kernel
theorem dX11_letters_6 : decode cX11_letters 6 = .ok (.iconst (-1), 1) := by decide +kernel
theorem dX11_letters_7 : decode cX11_letters 7 = .ok (.if_icmp .ne 6, 3) := by decide +kernel
theorem dX11_letters_10 : decode cX11_letters 10 = .ok (.bipush (-102), 2) := by decide +kernel
theorem dX11_letters_12 : decode cX11_letters 12 = .ok (.ireturn, 1) := by decide +kernel
theorem dX11_letters_13 : decode cX11_letters 13 = .ok (.aload_n 0, 1) := by decide +kernel
theorem dX11_letters_14 : decode cX11_letters 14 = .ok (.getfield 19, 3) := by decide +kernel
theorem dX11_letters_17 : decode cX11_letters 17 = .ok (.getfield 135, 3) := by decide +kernel
theorem dX11_letters_20 : decode cX11_letters 20 = .ok (.iload_n 3, 1) := by decide +kernel
theorem dX11_letters_21 : decode cX11_letters 21 = .ok (.iadd, 1) := by decide +kernel
theorem dX11_letters_22 : decode cX11_letters 22 = .ok (.bipush 40, 2) := by decide +kernel
theorem dX11_letters_24 : decode cX11_letters 24 = .ok (.if_icmp .le 6, 3) := by decide +kernel
theorem dX11_letters_27 : decode cX11_letters 27 = .ok (.bipush (-104), 2) := by decide +kernel
theorem dX11_letters_29 : decode cX11_letters 29 = .ok (.ireturn, 1) := by decide +kernel
theorem dX11_letters_30 : decode cX11_letters 30 = .ok (.iconst 0, 1) := by decide +kernel
theorem dX11_letters_31 : decode cX11_letters 31 = .ok (.istore 4, 2) := by decide +kernel
theorem dX11_letters_33 : decode cX11_letters 33 = .ok (.iload 4, 2) := by decide +kernel
theorem dX11_letters_35 : decode cX11_letters 35 = .ok (.iload_n 3, 1) := by decide +kernel
theorem dX11_letters_36 : decode cX11_letters 36 = .ok (.if_icmp .ge 28, 3) := by decide +kernel
theorem dX11_letters_39 : decode cX11_letters 39 = .ok (.aload_n 0, 1) := by decide +kernel
theorem dX11_letters_40 : decode cX11_letters 40 = .ok (.getfield 19, 3) := by decide +kernel
theorem dX11_letters_43 : decode cX11_letters 43 = .ok (.lload_n 1, 1) := by decide +kernel
theorem dX11_letters_44 : decode cX11_letters 44 = .ok (.bipush 8, 2) := by decide +kernel
theorem dX11_letters_46 : decode cX11_letters 46 = .ok (.iload 4, 2) := by decide +kernel
theorem dX11_letters_48 : decode cX11_letters 48 = .ok (.imul, 1) := by decide +kernel
theorem dX11_letters_49 : decode cX11_letters 49 = .ok (.lushr, 1) := by decide +kernel
theorem dX11_letters_50 : decode cX11_letters 50 = .ok (.ldc2_w 139, 3) := by decide +kernel
theorem dX11_letters_53 : decode cX11_letters 53 = .ok (.land, 1) := by decide +kernel
theorem dX11_letters_54 : decode cX11_letters 54 = .ok (.l2i, 1) := by decide +kernel
theorem dX11_letters_55 : decode cX11_letters 55 = .ok (.invokevirtual 141, 3) := by decide +kernel
theorem dX11_letters_58 : decode cX11_letters 58 = .ok (.iinc 4 1, 3) := by decide +kernel
theorem dX11_letters_61 : decode cX11_letters 61 = .ok (.goto (-28), 3) := by decide +kernel
theorem dX11_letters_64 : decode cX11_letters 64 = .ok (.aload_n 0, 1) := by decide +kernel
theorem dX11_letters_65 : decode cX11_letters 65 = .ok (.getfield 19, 3) := by decide +kernel
theorem dX11_letters_68 : decode cX11_letters 68 = .ok (.getfield 135, 3) := by decide +kernel
theorem dX11_letters_71 : decode cX11_letters 71 = .ok (.ireturn, 1) := by decide +kernel
theorem cd_95 (G : ZG) (d : Nat) (K : ZKt) (F : ZFt) (hT : zt5 G.2.2.2) : CS G RX11 cX11_letters 5 d K (some .int) [] (fun _ => []) 0 (bd_95 G.2.2.2 K F) := by
  unfold bd_95
  exact (CS.seq 5 (CS.decI_n (CX.pure (CE.callS (by decide) (CA.long (CE.lload_n rfl dX11_letters_0 zhd) CA.nil) zi_134 cs_X11_131 (fun _ => rfl) dX11_letters_1 zhd)) rfl (by decide) dX11_letters_4 zhd)
  (CS.seq 13 (CS.if1 (T := 10) (F := 13) (CD.pure (CC.icmp_eq_F (T := 10) (F := 13) (CE.iload_n rfl dX11_letters_5 zhd) (CE.iconst kI_m1 dX11_letters_6 zhd) dX11_letters_7 rfl rfl)) (CS.retI (CX.pure (CE.bipush kB_m102 dX11_letters_10 zhd)) dX11_letters_12) zhd)
  (CS.seq 30 (CS.if1 (T := 27) (F := 30) (CD.pure (CC.icmp_gt_F (T := 27) (F := 30) (CE.iadd (CE.getI (CE.getR (CE.aload_n rfl dX11_letters_13 zhd) fs_X11_19 dX11_letters_14 zhd) fs_X11_135 dX11_letters_17 zhd) (CE.iload_n rfl dX11_letters_20 zhd) dX11_letters_21 zhd) (CE.bipush kB_40 dX11_letters_22 zhd) dX11_letters_24 rfl rfl)) (CS.retI (CX.pure (CE.bipush kB_m104 dX11_letters_27 zhd)) dX11_letters_29) zhd)
  (CS.seq 64 (CS.scope (CS.seq 33 (CS.decI (CX.pure (CE.iconst kI_0 dX11_letters_30 zhd)) (by decide) dX11_letters_31 zhd)
  (CS.whl (T := 39) (F := 64) (p1 := 61) (CD.pure (CC.icmp_lt_F (T := 39) (F := 64) (CE.iload dX11_letters_33 zhd) (CE.iload_n rfl dX11_letters_35 zhd) dX11_letters_36 rfl rfl))
  (CS.seq 58 (CS.callV (CA.ref (CE.getR (CE.aload_n rfl dX11_letters_39 zhd) fs_X11_19 dX11_letters_40 zhd) (CA.int (CE.l2i (CE.land (CE.lushr (CE.lload_n rfl dX11_letters_43 zhd) (CE.imul (CE.bipush kB_8 dX11_letters_44 zhd) (CE.iload dX11_letters_46 zhd) dX11_letters_48 zhd) dX11_letters_49 zhd) (CE.ldc2 lc_X11_139 dX11_letters_50 zhd) dX11_letters_53 zhd) dX11_letters_54 zhd) CA.nil)) zi_54 cv_X11_141 (fun _ => rfl) dX11_letters_55 zhd)
  (CS.inc kI_1 (by decide) dX11_letters_58 zhd)) dX11_letters_61 rfl zhd)))
  (CS.retI (CX.pure (CE.getI (CE.getR (CE.aload_n rfl dX11_letters_64 zhd) fs_X11_19 dX11_letters_65 zhd) fs_X11_135 dX11_letters_68 zhd)) dX11_letters_71)))))
theorem dX11_blank_0 : decode cX11_blank 0 = .ok (.aload_n 0, 1) := by decide +kernel
theorem dX11_blank_1 : decode cX11_blank 1 = .ok (.getfield 19, 3) := by decide +kernel
theorem dX11_blank_4 : decode cX11_blank 4 = .ok (.getfield 135, 3) := by decide +kernel
theorem dX11_blank_7 : decode cX11_blank 7 = .ok (.istore_n 1, 1) := by decide +kernel
theorem dX11_blank_8 : decode cX11_blank 8 = .ok (.aload_n 0, 1) := by decide +kernel
theorem dX11_blank_9 : decode cX11_blank 9 = .ok (.getfield 19, 3) := by decide +kernel
theorem dX11_blank_12 : decode cX11_blank 12 = .ok (.iconst 0, 1) := by decide +kernel
theorem dX11_blank_13 : decode cX11_blank 13 = .ok (.putfield 135, 3) := by decide +kernel
theorem dX11_blank_16 : decode cX11_blank 16 = .ok (.iload_n 1, 1) := by decide +kernel
theorem dX11_blank_17 : decode cX11_blank 17 = .ok (.ireturn, 1) := by decide +kernel
theorem cd_96 (G : ZG) (d : Nat) (K : ZKt) (F : ZFt) (hT : zt5 G.2.2.2) : CS G RX11 cX11_blank 2 d K (some .int) [] (fun _ => []) 0 (bd_96 G.2.2.2 K F) := by
  unfold bd_96
  exact (CS.seq 8 (CS.decI_n (CX.pure (CE.getI (CE.getR (CE.aload_n rfl dX11_blank_0 zhd) fs_X11_19 dX11_blank_1 zhd) fs_X11_135 dX11_blank_4 zhd)) rfl (by decide) dX11_blank_7 zhd)
  (CS.seq 16 (CS.put (CE.getR (CE.aload_n rfl dX11_blank_8 zhd) fs_X11_19 dX11_blank_9 zhd) (CX.pure (CE.iconst kI_0 dX11_blank_12 zhd)) fp_X11_135 rfl dX11_blank_13 zhd)
  (CS.retI (CX.pure (CE.iload_n rfl dX11_blank_16 zhd)) dX11_blank_17)))
theorem dX11_fault_0 : decode cX11_fault 0 = .ok (.aload_n 0, 1) := by decide +kernel
theorem dX11_fault_1 : decode cX11_fault 1 = .ok (.getfield 19, 3) := by decide +kernel
theorem dX11_fault_4 : decode cX11_fault 4 = .ok (.invokevirtual 145, 3) := by decide +kernel
theorem dX11_fault_7 : decode cX11_fault 7 = .ok (.aload_n 0, 1) := by decide +kernel
theorem dX11_fault_8 : decode cX11_fault 8 = .ok (.getfield 19, 3) := by decide +kernel
theorem dX11_fault_11 : decode cX11_fault 11 = .ok (.getfield 148, 3) := by decide +kernel
theorem dX11_fault_14 : decode cX11_fault 14 = .ok (.ireturn, 1) := by decide +kernel
theorem cd_97 (G : ZG) (d : Nat) (K : ZKt) (F : ZFt) (hT : zt5 G.2.2.2) : CS G RX11 cX11_fault 1 d K (some .int) [] (fun _ => []) 0 (bd_97 G.2.2.2 K F) := by
  unfold bd_97
  exact (CS.seq 7 (CS.callV (CA.ref (CE.getR (CE.aload_n rfl dX11_fault_0 zhd) fs_X11_19 dX11_fault_1 zhd) CA.nil) zi_55 cv_X11_145 (fun _ => rfl) dX11_fault_4 zhd)
  (CS.retI (CX.pure (CE.getI (CE.getR (CE.aload_n rfl dX11_fault_7 zhd) fs_X11_19 dX11_fault_8 zhd) fs_X11_148 dX11_fault_11 zhd)) dX11_fault_14))
theorem dX11_chain_0 : decode cX11_chain 0 = .ok (.aload_n 0, 1) := by decide +kernel
theorem dX11_chain_1 : decode cX11_chain 1 = .ok (.getfield 19, 3) := by decide +kernel
theorem dX11_chain_4 : decode cX11_chain 4 = .ok (.invokevirtual 145, 3) := by decide +kernel
theorem dX11_chain_7 : decode cX11_chain 7 = .ok (.aload_n 0, 1) := by decide +kernel
theorem dX11_chain_8 : decode cX11_chain 8 = .ok (.getfield 19, 3) := by decide +kernel
theorem dX11_chain_11 : decode cX11_chain 11 = .ok (.getfield 151, 3) := by decide +kernel
theorem dX11_chain_14 : decode cX11_chain 14 = .ok (.ifCond .ne 6, 3) := by decide +kernel
theorem dX11_chain_17 : decode cX11_chain 17 = .ok (.bipush (-103), 2) := by decide +kernel
theorem dX11_chain_19 : decode cX11_chain 19 = .ok (.ireturn, 1) := by decide +kernel
theorem dX11_chain_20 : decode cX11_chain 20 = .ok (.aload_n 0, 1) := by decide +kernel
theorem dX11_chain_21 : decode cX11_chain 21 = .ok (.getfield 19, 3) := by decide +kernel
theorem dX11_chain_24 : decode cX11_chain 24 = .ok (.getfield 155, 3) := by decide +kernel
theorem dX11_chain_27 : decode cX11_chain 27 = .ok (.aload_n 0, 1) := by decide +kernel
theorem dX11_chain_28 : decode cX11_chain 28 = .ok (.getfield 19, 3) := by decide +kernel
theorem dX11_chain_31 : decode cX11_chain 31 = .ok (.getfield 158, 3) := by decide +kernel
theorem dX11_chain_34 : decode cX11_chain 34 = .ok (.if_icmp .le 6, 3) := by decide +kernel
theorem dX11_chain_37 : decode cX11_chain 37 = .ok (.bipush (-102), 2) := by decide +kernel
theorem dX11_chain_39 : decode cX11_chain 39 = .ok (.ireturn, 1) := by decide +kernel
theorem dX11_chain_40 : decode cX11_chain 40 = .ok (.aload_n 0, 1) := by decide +kernel
theorem dX11_chain_41 : decode cX11_chain 41 = .ok (.getfield 26, 3) := by decide +kernel
theorem dX11_chain_44 : decode cX11_chain 44 = .ok (.getfield 161, 3) := by decide +kernel
theorem dX11_chain_47 : decode cX11_chain 47 = .ok (.bipush 6, 2) := by decide +kernel
theorem dX11_chain_49 : decode cX11_chain 49 = .ok (.if_icmp .lt 6, 3) := by decide +kernel
theorem dX11_chain_52 : decode cX11_chain 52 = .ok (.bipush (-104), 2) := by decide +kernel
theorem dX11_chain_54 : decode cX11_chain 54 = .ok (.ireturn, 1) := by decide +kernel
theorem dX11_chain_55 : decode cX11_chain 55 = .ok (.aload_n 0, 1) := by decide +kernel
theorem dX11_chain_56 : decode cX11_chain 56 = .ok (.getfield 26, 3) := by decide +kernel
theorem dX11_chain_59 : decode cX11_chain 59 = .ok (.aload_n 0, 1) := by decide +kernel
theorem dX11_chain_60 : decode cX11_chain 60 = .ok (.getfield 19, 3) := by decide +kernel
theorem dX11_chain_63 : decode cX11_chain 63 = .ok (.invokevirtual 162, 3) := by decide +kernel
theorem dX11_chain_66 : decode cX11_chain 66 = .ok (.aload_n 0, 1) := by decide +kernel
theorem dX11_chain_67 : decode cX11_chain 67 = .ok (.getfield 19, 3) := by decide +kernel
theorem dX11_chain_70 : decode cX11_chain 70 = .ok (.iconst 0, 1) := by decide +kernel
theorem dX11_chain_71 : decode cX11_chain 71 = .ok (.putfield 135, 3) := by decide +kernel
theorem dX11_chain_74 : decode cX11_chain 74 = .ok (.aload_n 0, 1) := by decide +kernel
theorem dX11_chain_75 : decode cX11_chain 75 = .ok (.getfield 26, 3) := by decide +kernel
theorem dX11_chain_78 : decode cX11_chain 78 = .ok (.getfield 161, 3) := by decide +kernel
theorem dX11_chain_81 : decode cX11_chain 81 = .ok (.iconst 1, 1) := by decide +kernel
theorem dX11_chain_82 : decode cX11_chain 82 = .ok (.isub, 1) := by decide +kernel
theorem dX11_chain_83 : decode cX11_chain 83 = .ok (.ireturn, 1) := by decide +kernel
theorem cd_98 (G : ZG) (d : Nat) (K : ZKt) (F : ZFt) (hT : zt5 G.2.2.2) : CS G RX11 cX11_chain 1 d K (some .int) [] (fun _ => []) 0 (bd_98 G.2.2.2 K F) := by
  unfold bd_98
  exact (CS.seq 7 (CS.callV (CA.ref (CE.getR (CE.aload_n rfl dX11_chain_0 zhd) fs_X11_19 dX11_chain_1 zhd) CA.nil) zi_55 cv_X11_145 (fun _ => rfl) dX11_chain_4 zhd)
  (CS.seq 20 (CS.if1 (T := 17) (F := 20) (CD.pure (CC.not (CC.if_ne_T (T := 20) (F := 17) (CE.getI (CE.getR (CE.aload_n rfl dX11_chain_7 zhd) fs_X11_19 dX11_chain_8 zhd) fs_X11_151 dX11_chain_11 zhd) dX11_chain_14 rfl rfl))) (CS.retI (CX.pure (CE.bipush kB_m103 dX11_chain_17 zhd)) dX11_chain_19) zhd)
  (CS.seq 40 (CS.if1 (T := 37) (F := 40) (CD.pure (CC.icmp_gt_F (T := 37) (F := 40) (CE.getI (CE.getR (CE.aload_n rfl dX11_chain_20 zhd) fs_X11_19 dX11_chain_21 zhd) fs_X11_155 dX11_chain_24 zhd) (CE.getI (CE.getR (CE.aload_n rfl dX11_chain_27 zhd) fs_X11_19 dX11_chain_28 zhd) fs_X11_158 dX11_chain_31 zhd) dX11_chain_34 rfl rfl)) (CS.retI (CX.pure (CE.bipush kB_m102 dX11_chain_37 zhd)) dX11_chain_39) zhd)
  (CS.seq 55 (CS.if1 (T := 52) (F := 55) (CD.pure (CC.icmp_ge_F (T := 52) (F := 55) (CE.getI (CE.getR (CE.aload_n rfl dX11_chain_40 zhd) fs_X11_26 dX11_chain_41 zhd) fs_X11_161 dX11_chain_44 zhd) (CE.bipush kB_6 dX11_chain_47 zhd) dX11_chain_49 rfl rfl)) (CS.retI (CX.pure (CE.bipush kB_m104 dX11_chain_52 zhd)) dX11_chain_54) zhd)
  (CS.seq 66 (CS.callV (CA.ref (CE.getR (CE.aload_n rfl dX11_chain_55 zhd) fs_X11_26 dX11_chain_56 zhd) (CA.ref (CE.getR (CE.aload_n rfl dX11_chain_59 zhd) fs_X11_19 dX11_chain_60 zhd) CA.nil)) zi_0 cv_X11_162 (fun _ => rfl) dX11_chain_63 zhd)
  (CS.seq 74 (CS.put (CE.getR (CE.aload_n rfl dX11_chain_66 zhd) fs_X11_19 dX11_chain_67 zhd) (CX.pure (CE.iconst kI_0 dX11_chain_70 zhd)) fp_X11_135 rfl dX11_chain_71 zhd)
  (CS.retI (CX.pure (CE.isub (CE.getI (CE.getR (CE.aload_n rfl dX11_chain_74 zhd) fs_X11_26 dX11_chain_75 zhd) fs_X11_161 dX11_chain_78 zhd) (CE.iconst kI_1 dX11_chain_81 zhd) dX11_chain_82 zhd)) dX11_chain_83)))))))
theorem dX11_of_0 : decode cX11_of 0 = .ok (.iload_n 1, 1) := by decide +kernel
theorem dX11_of_1 : decode cX11_of 1 = .ok (.aload_n 0, 1) := by decide +kernel
theorem dX11_of_2 : decode cX11_of 2 = .ok (.getfield 26, 3) := by decide +kernel
theorem dX11_of_5 : decode cX11_of 5 = .ok (.getfield 161, 3) := by decide +kernel
theorem dX11_of_8 : decode cX11_of 8 = .ok (.invokestatic 86, 3) := by decide +kernel
theorem dX11_of_11 : decode cX11_of 11 = .ok (.ifCond .ne 6, 3) := by decide +kernel
theorem dX11_of_14 : decode cX11_of 14 = .ok (.ldc 166, 2) := by decide +kernel
theorem dX11_of_16 : decode cX11_of 16 = .ok (.ireturn, 1) := by decide +kernel
theorem dX11_of_17 : decode cX11_of 17 = .ok (.iload_n 2, 1) := by decide +kernel
theorem dX11_of_18 : decode cX11_of 18 = .ok (.bipush 7, 2) := by decide +kernel
theorem dX11_of_20 : decode cX11_of 20 = .ok (.invokestatic 86, 3) := by decide +kernel
theorem dX11_of_23 : decode cX11_of 23 = .ok (.ifCond .ne 6, 3) := by decide +kernel
theorem dX11_of_26 : decode cX11_of 26 = .ok (.ldc 167, 2) := by decide +kernel
theorem dX11_of_28 : decode cX11_of 28 = .ok (.ireturn, 1) := by decide +kernel
theorem dX11_of_29 : decode cX11_of 29 = .ok (.aload_n 0, 1) := by decide +kernel
theorem dX11_of_30 : decode cX11_of 30 = .ok (.getfield 26, 3) := by decide +kernel
theorem dX11_of_33 : decode cX11_of 33 = .ok (.iload_n 1, 1) := by decide +kernel
theorem dX11_of_34 : decode cX11_of 34 = .ok (.iload_n 2, 1) := by decide +kernel
theorem dX11_of_35 : decode cX11_of 35 = .ok (.aload_n 0, 1) := by decide +kernel
theorem dX11_of_36 : decode cX11_of 36 = .ok (.getfield 10, 3) := by decide +kernel
theorem dX11_of_39 : decode cX11_of 39 = .ok (.invokevirtual 168, 3) := by decide +kernel
theorem dX11_of_42 : decode cX11_of 42 = .ok (.ireturn, 1) := by decide +kernel
theorem cd_99 (G : ZG) (d : Nat) (K : ZKt) (F : ZFt) (hT : zt5 G.2.2.2) : CS G RX11 cX11_of 3 d K (some .int) [] (fun _ => []) 0 (bd_99 G.2.2.2 K F) := by
  unfold bd_99
  exact (CS.seq 17 (CS.if1 (T := 14) (F := 17) (CD.pure (CC.not (CC.if_ne_T (T := 17) (F := 14) (CE.callS (by decide) (CA.int (CE.iload_n rfl dX11_of_0 zhd) (CA.int (CE.getI (CE.getR (CE.aload_n rfl dX11_of_1 zhd) fs_X11_26 dX11_of_2 zhd) fs_X11_161 dX11_of_5 zhd) CA.nil)) zi_129 cs_X11_86 (fun _ => rfl) dX11_of_8 zhd) dX11_of_11 rfl rfl))) (CS.retI (CX.pure (CE.ldc lc_X11_166 dX11_of_14 zhd)) dX11_of_16) zhd)
  (CS.seq 29 (CS.if1 (T := 26) (F := 29) (CD.pure (CC.not (CC.if_ne_T (T := 29) (F := 26) (CE.callS (by decide) (CA.int (CE.iload_n rfl dX11_of_17 zhd) (CA.int (CE.bipush kB_7 dX11_of_18 zhd) CA.nil)) zi_129 cs_X11_86 (fun _ => rfl) dX11_of_20 zhd) dX11_of_23 rfl rfl))) (CS.retI (CX.pure (CE.ldc lc_X11_167 dX11_of_26 zhd)) dX11_of_28) zhd)
  (CS.retI (CX.pure (CE.callV (by decide) (CA.ref (CE.getR (CE.aload_n rfl dX11_of_29 zhd) fs_X11_26 dX11_of_30 zhd) (CA.int (CE.iload_n rfl dX11_of_33 zhd) (CA.int (CE.iload_n rfl dX11_of_34 zhd) (CA.ref (CE.getR (CE.aload_n rfl dX11_of_35 zhd) fs_X11_10 dX11_of_36 zhd) CA.nil)))) zi_1 cv_X11_168 (fun _ => rfl) dX11_of_39 zhd)) dX11_of_42)))
theorem dX11_odds_0 : decode cX11_odds 0 = .ok (.iload_n 1, 1) := by decide +kernel
theorem dX11_odds_1 : decode cX11_odds 1 = .ok (.aload_n 0, 1) := by decide +kernel
theorem dX11_odds_2 : decode cX11_odds 2 = .ok (.getfield 26, 3) := by decide +kernel
theorem dX11_odds_5 : decode cX11_odds 5 = .ok (.getfield 161, 3) := by decide +kernel
theorem dX11_odds_8 : decode cX11_odds 8 = .ok (.invokestatic 86, 3) := by decide +kernel
theorem dX11_odds_11 : decode cX11_odds 11 = .ok (.ifCond .eq 11, 3) := by decide +kernel
theorem dX11_odds_14 : decode cX11_odds 14 = .ok (.iload_n 2, 1) := by decide +kernel
theorem dX11_odds_15 : decode cX11_odds 15 = .ok (.iconst 2, 1) := by decide +kernel
theorem dX11_odds_16 : decode cX11_odds 16 = .ok (.invokestatic 86, 3) := by decide +kernel
theorem dX11_odds_19 : decode cX11_odds 19 = .ok (.ifCond .ne 7, 3) := by decide +kernel
theorem dX11_odds_22 : decode cX11_odds 22 = .ok (.ldc2_w 172, 3) := by decide +kernel
theorem dX11_odds_25 : decode cX11_odds 25 = .ok (.lreturn, 1) := by decide +kernel
theorem dX11_odds_26 : decode cX11_odds 26 = .ok (.aload_n 0, 1) := by decide +kernel
theorem dX11_odds_27 : decode cX11_odds 27 = .ok (.getfield 26, 3) := by decide +kernel
theorem dX11_odds_30 : decode cX11_odds 30 = .ok (.iload_n 1, 1) := by decide +kernel
theorem dX11_odds_31 : decode cX11_odds 31 = .ok (.iload_n 2, 1) := by decide +kernel
theorem dX11_odds_32 : decode cX11_odds 32 = .ok (.aload_n 0, 1) := by decide +kernel
theorem dX11_odds_33 : decode cX11_odds 33 = .ok (.getfield 10, 3) := by decide +kernel
theorem dX11_odds_36 : decode cX11_odds 36 = .ok (.invokevirtual 174, 3) := by decide +kernel
theorem dX11_odds_39 : decode cX11_odds 39 = .ok (.lreturn, 1) := by decide +kernel
theorem cd_100 (G : ZG) (d : Nat) (K : ZKt) (F : ZFt) (hT : zt5 G.2.2.2) : CS G RX11 cX11_odds 3 d K (some .long) [] (fun _ => []) 0 (bd_100 G.2.2.2 K F) := by
  unfold bd_100
  exact (CS.seq 26 (CS.if1 (T := 22) (F := 26) (CD.pure (CC.or (CC.not (CC.if_ne_F (T := 14) (F := 22) (CE.callS (by decide) (CA.int (CE.iload_n rfl dX11_odds_0 zhd) (CA.int (CE.getI (CE.getR (CE.aload_n rfl dX11_odds_1 zhd) fs_X11_26 dX11_odds_2 zhd) fs_X11_161 dX11_odds_5 zhd) CA.nil)) zi_129 cs_X11_86 (fun _ => rfl) dX11_odds_8 zhd) dX11_odds_11 rfl rfl)) (CC.not (CC.if_ne_T (T := 26) (F := 22) (CE.callS (by decide) (CA.int (CE.iload_n rfl dX11_odds_14 zhd) (CA.int (CE.iconst kI_2 dX11_odds_15 zhd) CA.nil)) zi_129 cs_X11_86 (fun _ => rfl) dX11_odds_16 zhd) dX11_odds_19 rfl rfl)))) (CS.retL (CX.pure (CE.ldc2 lc_X11_172 dX11_odds_22 zhd)) dX11_odds_25) zhd)
  (CS.retL (CX.callV (by decide) (CA.ref (CE.getR (CE.aload_n rfl dX11_odds_26 zhd) fs_X11_26 dX11_odds_27 zhd) (CA.int (CE.iload_n rfl dX11_odds_30 zhd) (CA.int (CE.iload_n rfl dX11_odds_31 zhd) (CA.ref (CE.getR (CE.aload_n rfl dX11_odds_32 zhd) fs_X11_10 dX11_odds_33 zhd) CA.nil)))) zi_6 cv_X11_174 (fun _ => rfl) dX11_odds_36 zhd) dX11_odds_39))
theorem dX11_giveOut_0 : decode cX11_giveOut 0 = .ok (.iload_n 1, 1) := by decide +kernel
theorem dX11_giveOut_1 : decode cX11_giveOut 1 = .ok (.iconst 1, 1) := by decide +kernel
theorem dX11_giveOut_2 : decode cX11_giveOut 2 = .ok (.bipush 6, 2) := by decide +kernel
theorem dX11_giveOut_4 : decode cX11_giveOut 4 = .ok (.invokestatic 94, 3) := by decide +kernel
theorem dX11_giveOut_7 : decode cX11_giveOut 7 = .ok (.ifCond .ne 6, 3) := by decide +kernel
theorem dX11_giveOut_10 : decode cX11_giveOut 10 = .ok (.bipush (-102), 2) := by decide +kernel
theorem dX11_giveOut_12 : decode cX11_giveOut 12 = .ok (.ireturn, 1) := by decide +kernel
theorem dX11_giveOut_13 : decode cX11_giveOut 13 = .ok (.iload_n 2, 1) := by decide +kernel
theorem dX11_giveOut_14 : decode cX11_giveOut 14 = .ok (.ifCond .eq 19, 3) := by decide +kernel
theorem dX11_giveOut_17 : decode cX11_giveOut 17 = .ok (.iload_n 2, 1) := by decide +kernel
theorem dX11_giveOut_18 : decode cX11_giveOut 18 = .ok (.bipush 10, 2) := by decide +kernel
theorem dX11_giveOut_20 : decode cX11_giveOut 20 = .ok (.bipush 9, 2) := by decide +kernel
theorem dX11_giveOut_22 : decode cX11_giveOut 22 = .ok (.iload_n 1, 1) := by decide +kernel
theorem dX11_giveOut_23 : decode cX11_giveOut 23 = .ok (.iadd, 1) := by decide +kernel
theorem dX11_giveOut_24 : decode cX11_giveOut 24 = .ok (.invokestatic 94, 3) := by decide +kernel
theorem dX11_giveOut_27 : decode cX11_giveOut 27 = .ok (.ifCond .ne 6, 3) := by decide +kernel
theorem dX11_giveOut_30 : decode cX11_giveOut 30 = .ok (.bipush (-102), 2) := by decide +kernel
theorem dX11_giveOut_32 : decode cX11_giveOut 32 = .ok (.ireturn, 1) := by decide +kernel
theorem dX11_giveOut_33 : decode cX11_giveOut 33 = .ok (.aload_n 0, 1) := by decide +kernel
theorem dX11_giveOut_34 : decode cX11_giveOut 34 = .ok (.getfield 33, 3) := by decide +kernel
theorem dX11_giveOut_37 : decode cX11_giveOut 37 = .ok (.getfield 178, 3) := by decide +kernel
theorem dX11_giveOut_40 : decode cX11_giveOut 40 = .ok (.bipush 30, 2) := by decide +kernel
theorem dX11_giveOut_42 : decode cX11_giveOut 42 = .ok (.if_icmp .lt 6, 3) := by decide +kernel
theorem dX11_giveOut_45 : decode cX11_giveOut 45 = .ok (.bipush (-103), 2) := by decide +kernel
theorem dX11_giveOut_47 : decode cX11_giveOut 47 = .ok (.ireturn, 1) := by decide +kernel
theorem dX11_giveOut_48 : decode cX11_giveOut 48 = .ok (.aload_n 0, 1) := by decide +kernel
theorem dX11_giveOut_49 : decode cX11_giveOut 49 = .ok (.getfield 33, 3) := by decide +kernel
theorem dX11_giveOut_52 : decode cX11_giveOut 52 = .ok (.iload_n 1, 1) := by decide +kernel
theorem dX11_giveOut_53 : decode cX11_giveOut 53 = .ok (.aload_n 0, 1) := by decide +kernel
theorem dX11_giveOut_54 : decode cX11_giveOut 54 = .ok (.getfield 10, 3) := by decide +kernel
theorem dX11_giveOut_57 : decode cX11_giveOut 57 = .ok (.aload_n 0, 1) := by decide +kernel
theorem dX11_giveOut_58 : decode cX11_giveOut 58 = .ok (.getfield 26, 3) := by decide +kernel
theorem dX11_giveOut_61 : decode cX11_giveOut 61 = .ok (.invokevirtual 181, 3) := by decide +kernel
theorem dX11_giveOut_64 : decode cX11_giveOut 64 = .ok (.iload_n 2, 1) := by decide +kernel
theorem dX11_giveOut_65 : decode cX11_giveOut 65 = .ok (.ifCond .ne 13, 3) := by decide +kernel
theorem dX11_giveOut_68 : decode cX11_giveOut 68 = .ok (.aload_n 0, 1) := by decide +kernel
theorem dX11_giveOut_69 : decode cX11_giveOut 69 = .ok (.getfield 33, 3) := by decide +kernel
theorem dX11_giveOut_72 : decode cX11_giveOut 72 = .ok (.getfield 185, 3) := by decide +kernel
theorem dX11_giveOut_75 : decode cX11_giveOut 75 = .ok (.goto 14, 3) := by decide +kernel
theorem dX11_giveOut_78 : decode cX11_giveOut 78 = .ok (.aload_n 0, 1) := by decide +kernel
theorem dX11_giveOut_79 : decode cX11_giveOut 79 = .ok (.getfield 33, 3) := by decide +kernel
theorem dX11_giveOut_82 : decode cX11_giveOut 82 = .ok (.iload_n 2, 1) := by decide +kernel
theorem dX11_giveOut_83 : decode cX11_giveOut 83 = .ok (.bipush 10, 2) := by decide +kernel
theorem dX11_giveOut_85 : decode cX11_giveOut 85 = .ok (.isub, 1) := by decide +kernel
theorem dX11_giveOut_86 : decode cX11_giveOut 86 = .ok (.invokevirtual 186, 3) := by decide +kernel
theorem dX11_giveOut_89 : decode cX11_giveOut 89 = .ok (.ireturn, 1) := by decide +kernel
theorem cd_101 (G : ZG) (d : Nat) (K : ZKt) (F : ZFt) (hT : zt5 G.2.2.2) : CS G RX11 cX11_giveOut 3 d K (some .int) [] (fun _ => []) 0 (bd_101 G.2.2.2 K F) := by
  unfold bd_101
  exact (CS.seq 13 (CS.if1 (T := 10) (F := 13) (CD.pure (CC.not (CC.if_ne_T (T := 13) (F := 10) (CE.callS (by decide) (CA.int (CE.iload_n rfl dX11_giveOut_0 zhd) (CA.int (CE.iconst kI_1 dX11_giveOut_1 zhd) (CA.int (CE.bipush kB_6 dX11_giveOut_2 zhd) CA.nil))) zi_130 cs_X11_94 (fun _ => rfl) dX11_giveOut_4 zhd) dX11_giveOut_7 rfl rfl))) (CS.retI (CX.pure (CE.bipush kB_m102 dX11_giveOut_10 zhd)) dX11_giveOut_12) zhd)
  (CS.seq 33 (CS.if1 (T := 30) (F := 33) (CD.pure (CC.and (CC.if_ne_F (T := 17) (F := 33) (CE.iload_n rfl dX11_giveOut_13 zhd) dX11_giveOut_14 rfl rfl) (CC.not (CC.if_ne_T (T := 33) (F := 30) (CE.callS (by decide) (CA.int (CE.iload_n rfl dX11_giveOut_17 zhd) (CA.int (CE.bipush kB_10 dX11_giveOut_18 zhd) (CA.int (CE.iadd (CE.bipush kB_9 dX11_giveOut_20 zhd) (CE.iload_n rfl dX11_giveOut_22 zhd) dX11_giveOut_23 zhd) CA.nil))) zi_130 cs_X11_94 (fun _ => rfl) dX11_giveOut_24 zhd) dX11_giveOut_27 rfl rfl)))) (CS.retI (CX.pure (CE.bipush kB_m102 dX11_giveOut_30 zhd)) dX11_giveOut_32) zhd)
  (CS.seq 48 (CS.if1 (T := 45) (F := 48) (CD.pure (CC.icmp_ge_F (T := 45) (F := 48) (CE.getI (CE.getR (CE.aload_n rfl dX11_giveOut_33 zhd) fs_X11_33 dX11_giveOut_34 zhd) fs_X11_178 dX11_giveOut_37 zhd) (CE.bipush kB_30 dX11_giveOut_40 zhd) dX11_giveOut_42 rfl rfl)) (CS.retI (CX.pure (CE.bipush kB_m103 dX11_giveOut_45 zhd)) dX11_giveOut_47) zhd)
  (CS.seq 64 (CS.callV (CA.ref (CE.getR (CE.aload_n rfl dX11_giveOut_48 zhd) fs_X11_33 dX11_giveOut_49 zhd) (CA.int (CE.iload_n rfl dX11_giveOut_52 zhd) (CA.ref (CE.getR (CE.aload_n rfl dX11_giveOut_53 zhd) fs_X11_10 dX11_giveOut_54 zhd) (CA.ref (CE.getR (CE.aload_n rfl dX11_giveOut_57 zhd) fs_X11_26 dX11_giveOut_58 zhd) CA.nil)))) zi_21 cv_X11_181 (fun _ => rfl) dX11_giveOut_61 zhd)
  (CS.retI (CX.pure (CE.tern (T := 68) (F := 78) (p1 := 75) (q := 89) (CC.if_eq_F (T := 68) (F := 78) (CE.iload_n rfl dX11_giveOut_64 zhd) dX11_giveOut_65 rfl rfl) (CE.getI (CE.getR (CE.aload_n rfl dX11_giveOut_68 zhd) fs_X11_33 dX11_giveOut_69 zhd) fs_X11_185 dX11_giveOut_72 zhd) zex2 dX11_giveOut_75 rfl zhd (CE.callV (by decide) (CA.ref (CE.getR (CE.aload_n rfl dX11_giveOut_78 zhd) fs_X11_33 dX11_giveOut_79 zhd) (CA.int (CE.isub (CE.iload_n rfl dX11_giveOut_82 zhd) (CE.bipush kB_10 dX11_giveOut_83 zhd) dX11_giveOut_85 zhd) CA.nil)) zi_25 cv_X11_186 (fun _ => rfl) dX11_giveOut_86 zhd))) dX11_giveOut_89)))))
theorem dX11_thing_0 : decode cX11_thing 0 = .ok (.iload_n 1, 1) := by decide +kernel
theorem dX11_thing_1 : decode cX11_thing 1 = .ok (.bipush 8, 2) := by decide +kernel
theorem dX11_thing_3 : decode cX11_thing 3 = .ok (.invokestatic 86, 3) := by decide +kernel
theorem dX11_thing_6 : decode cX11_thing 6 = .ok (.ifCond .ne 6, 3) := by decide +kernel
theorem dX11_thing_9 : decode cX11_thing 9 = .ok (.bipush (-101), 2) := by decide +kernel
theorem dX11_thing_11 : decode cX11_thing 11 = .ok (.ireturn, 1) := by decide +kernel
theorem dX11_thing_12 : decode cX11_thing 12 = .ok (.iload_n 2, 1) := by decide +kernel
theorem dX11_thing_13 : decode cX11_thing 13 = .ok (.bipush 12, 2) := by decide +kernel
theorem dX11_thing_15 : decode cX11_thing 15 = .ok (.invokestatic 86, 3) := by decide +kernel
theorem dX11_thing_18 : decode cX11_thing 18 = .ok (.ifCond .ne 6, 3) := by decide +kernel
theorem dX11_thing_21 : decode cX11_thing 21 = .ok (.bipush (-102), 2) := by decide +kernel
theorem dX11_thing_23 : decode cX11_thing 23 = .ok (.ireturn, 1) := by decide +kernel
theorem dX11_thing_24 : decode cX11_thing 24 = .ok (.aload_n 0, 1) := by decide +kernel
theorem dX11_thing_25 : decode cX11_thing 25 = .ok (.getfield 40, 3) := by decide +kernel
theorem dX11_thing_28 : decode cX11_thing 28 = .ok (.getfield 189, 3) := by decide +kernel
theorem dX11_thing_31 : decode cX11_thing 31 = .ok (.bipush 24, 2) := by decide +kernel
theorem dX11_thing_33 : decode cX11_thing 33 = .ok (.if_icmp .lt 6, 3) := by decide +kernel
theorem dX11_thing_36 : decode cX11_thing 36 = .ok (.bipush (-104), 2) := by decide +kernel
theorem dX11_thing_38 : decode cX11_thing 38 = .ok (.ireturn, 1) := by decide +kernel
theorem dX11_thing_39 : decode cX11_thing 39 = .ok (.aload_n 0, 1) := by decide +kernel
theorem dX11_thing_40 : decode cX11_thing 40 = .ok (.getfield 40, 3) := by decide +kernel
theorem dX11_thing_43 : decode cX11_thing 43 = .ok (.iload_n 1, 1) := by decide +kernel
theorem dX11_thing_44 : decode cX11_thing 44 = .ok (.iload_n 2, 1) := by decide +kernel
theorem dX11_thing_45 : decode cX11_thing 45 = .ok (.invokevirtual 190, 3) := by decide +kernel
theorem dX11_thing_48 : decode cX11_thing 48 = .ok (.ireturn, 1) := by decide +kernel
theorem cd_102 (G : ZG) (d : Nat) (K : ZKt) (F : ZFt) (hT : zt5 G.2.2.2) : CS G RX11 cX11_thing 3 d K (some .int) [] (fun _ => []) 0 (bd_102 G.2.2.2 K F) := by
  unfold bd_102
  exact (CS.seq 12 (CS.if1 (T := 9) (F := 12) (CD.pure (CC.not (CC.if_ne_T (T := 12) (F := 9) (CE.callS (by decide) (CA.int (CE.iload_n rfl dX11_thing_0 zhd) (CA.int (CE.bipush kB_8 dX11_thing_1 zhd) CA.nil)) zi_129 cs_X11_86 (fun _ => rfl) dX11_thing_3 zhd) dX11_thing_6 rfl rfl))) (CS.retI (CX.pure (CE.bipush kB_m101 dX11_thing_9 zhd)) dX11_thing_11) zhd)
  (CS.seq 24 (CS.if1 (T := 21) (F := 24) (CD.pure (CC.not (CC.if_ne_T (T := 24) (F := 21) (CE.callS (by decide) (CA.int (CE.iload_n rfl dX11_thing_12 zhd) (CA.int (CE.bipush kB_12 dX11_thing_13 zhd) CA.nil)) zi_129 cs_X11_86 (fun _ => rfl) dX11_thing_15 zhd) dX11_thing_18 rfl rfl))) (CS.retI (CX.pure (CE.bipush kB_m102 dX11_thing_21 zhd)) dX11_thing_23) zhd)
  (CS.seq 39 (CS.if1 (T := 36) (F := 39) (CD.pure (CC.icmp_ge_F (T := 36) (F := 39) (CE.getI (CE.getR (CE.aload_n rfl dX11_thing_24 zhd) fs_X11_40 dX11_thing_25 zhd) fs_X11_189 dX11_thing_28 zhd) (CE.bipush kB_24 dX11_thing_31 zhd) dX11_thing_33 rfl rfl)) (CS.retI (CX.pure (CE.bipush kB_m104 dX11_thing_36 zhd)) dX11_thing_38) zhd)
  (CS.retI (CX.callV (by decide) (CA.ref (CE.getR (CE.aload_n rfl dX11_thing_39 zhd) fs_X11_40 dX11_thing_40 zhd) (CA.int (CE.iload_n rfl dX11_thing_43 zhd) (CA.int (CE.iload_n rfl dX11_thing_44 zhd) CA.nil))) zi_79 cv_X11_190 (fun _ => rfl) dX11_thing_45 zhd) dX11_thing_48))))
theorem dX11_measure_0 : decode cX11_measure 0 = .ok (.iload_n 1, 1) := by decide +kernel
theorem dX11_measure_1 : decode cX11_measure 1 = .ok (.aload_n 0, 1) := by decide +kernel
theorem dX11_measure_2 : decode cX11_measure 2 = .ok (.getfield 40, 3) := by decide +kernel
theorem dX11_measure_5 : decode cX11_measure 5 = .ok (.getfield 189, 3) := by decide +kernel
theorem dX11_measure_8 : decode cX11_measure 8 = .ok (.invokestatic 86, 3) := by decide +kernel
theorem dX11_measure_11 : decode cX11_measure 11 = .ok (.ifCond .ne 6, 3) := by decide +kernel
theorem dX11_measure_14 : decode cX11_measure 14 = .ok (.bipush (-101), 2) := by decide +kernel
theorem dX11_measure_16 : decode cX11_measure 16 = .ok (.ireturn, 1) := by decide +kernel
theorem dX11_measure_17 : decode cX11_measure 17 = .ok (.iload_n 2, 1) := by decide +kernel
theorem dX11_measure_18 : decode cX11_measure 18 = .ok (.iconst 0, 1) := by decide +kernel
theorem dX11_measure_19 : decode cX11_measure 19 = .ok (.sipush 1999, 3) := by decide +kernel
theorem dX11_measure_22 : decode cX11_measure 22 = .ok (.invokestatic 94, 3) := by decide +kernel
theorem dX11_measure_25 : decode cX11_measure 25 = .ok (.ifCond .eq 13, 3) := by decide +kernel
theorem dX11_measure_28 : decode cX11_measure 28 = .ok (.iload_n 3, 1) := by decide +kernel
theorem dX11_measure_29 : decode cX11_measure 29 = .ok (.iconst 0, 1) := by decide +kernel
theorem dX11_measure_30 : decode cX11_measure 30 = .ok (.bipush 99, 2) := by decide +kernel
theorem dX11_measure_32 : decode cX11_measure 32 = .ok (.invokestatic 94, 3) := by decide +kernel
theorem dX11_measure_35 : decode cX11_measure 35 = .ok (.ifCond .ne 6, 3) := by decide +kernel
theorem dX11_measure_38 : decode cX11_measure 38 = .ok (.bipush (-102), 2) := by decide +kernel
theorem dX11_measure_40 : decode cX11_measure 40 = .ok (.ireturn, 1) := by decide +kernel
theorem dX11_measure_41 : decode cX11_measure 41 = .ok (.aload_n 0, 1) := by decide +kernel
theorem dX11_measure_42 : decode cX11_measure 42 = .ok (.getfield 40, 3) := by decide +kernel
theorem dX11_measure_45 : decode cX11_measure 45 = .ok (.getfield 192, 3) := by decide +kernel
theorem dX11_measure_48 : decode cX11_measure 48 = .ok (.iload_n 1, 1) := by decide +kernel
theorem dX11_measure_49 : decode cX11_measure 49 = .ok (.iaload, 1) := by decide +kernel
theorem dX11_measure_50 : decode cX11_measure 50 = .ok (.iconst 3, 1) := by decide +kernel
theorem dX11_measure_51 : decode cX11_measure 51 = .ok (.if_icmp .lt 6, 3) := by decide +kernel
theorem dX11_measure_54 : decode cX11_measure 54 = .ok (.bipush (-104), 2) := by decide +kernel
theorem dX11_measure_56 : decode cX11_measure 56 = .ok (.ireturn, 1) := by decide +kernel
theorem dX11_measure_57 : decode cX11_measure 57 = .ok (.aload_n 0, 1) := by decide +kernel
theorem dX11_measure_58 : decode cX11_measure 58 = .ok (.getfield 40, 3) := by decide +kernel
theorem dX11_measure_61 : decode cX11_measure 61 = .ok (.iload_n 1, 1) := by decide +kernel
theorem dX11_measure_62 : decode cX11_measure 62 = .ok (.iload_n 2, 1) := by decide +kernel
theorem dX11_measure_63 : decode cX11_measure 63 = .ok (.iload_n 3, 1) := by decide +kernel
theorem dX11_measure_64 : decode cX11_measure 64 = .ok (.invokevirtual 195, 3) := by decide +kernel
theorem dX11_measure_67 : decode cX11_measure 67 = .ok (.ireturn, 1) := by decide +kernel
theorem cd_103 (G : ZG) (d : Nat) (K : ZKt) (F : ZFt) (hT : zt5 G.2.2.2) : CS G RX11 cX11_measure 4 d K (some .int) [] (fun _ => []) 0 (bd_103 G.2.2.2 K F) := by
  unfold bd_103
  exact (CS.seq 17 (CS.if1 (T := 14) (F := 17) (CD.pure (CC.not (CC.if_ne_T (T := 17) (F := 14) (CE.callS (by decide) (CA.int (CE.iload_n rfl dX11_measure_0 zhd) (CA.int (CE.getI (CE.getR (CE.aload_n rfl dX11_measure_1 zhd) fs_X11_40 dX11_measure_2 zhd) fs_X11_189 dX11_measure_5 zhd) CA.nil)) zi_129 cs_X11_86 (fun _ => rfl) dX11_measure_8 zhd) dX11_measure_11 rfl rfl))) (CS.retI (CX.pure (CE.bipush kB_m101 dX11_measure_14 zhd)) dX11_measure_16) zhd)
  (CS.seq 41 (CS.if1 (T := 38) (F := 41) (CD.pure (CC.or (CC.not (CC.if_ne_F (T := 28) (F := 38) (CE.callS (by decide) (CA.int (CE.iload_n rfl dX11_measure_17 zhd) (CA.int (CE.iconst kI_0 dX11_measure_18 zhd) (CA.int (CE.sipush kS_1999 dX11_measure_19 zhd) CA.nil))) zi_130 cs_X11_94 (fun _ => rfl) dX11_measure_22 zhd) dX11_measure_25 rfl rfl)) (CC.not (CC.if_ne_T (T := 41) (F := 38) (CE.callS (by decide) (CA.int (CE.iload_n rfl dX11_measure_28 zhd) (CA.int (CE.iconst kI_0 dX11_measure_29 zhd) (CA.int (CE.bipush kB_99 dX11_measure_30 zhd) CA.nil))) zi_130 cs_X11_94 (fun _ => rfl) dX11_measure_32 zhd) dX11_measure_35 rfl rfl)))) (CS.retI (CX.pure (CE.bipush kB_m102 dX11_measure_38 zhd)) dX11_measure_40) zhd)
  (CS.seq 57 (CS.if1 (T := 54) (F := 57) (CD.pure (CC.icmp_ge_F (T := 54) (F := 57) (CE.aldI (CE.getR (CE.getR (CE.aload_n rfl dX11_measure_41 zhd) fs_X11_40 dX11_measure_42 zhd) fs_X11_192 dX11_measure_45 zhd) (CE.iload_n rfl dX11_measure_48 zhd) (Or.inl ⟨rfl, dX11_measure_49⟩) zhd) (CE.iconst kI_3 dX11_measure_50 zhd) dX11_measure_51 rfl rfl)) (CS.retI (CX.pure (CE.bipush kB_m104 dX11_measure_54 zhd)) dX11_measure_56) zhd)
  (CS.retI (CX.callV (by decide) (CA.ref (CE.getR (CE.aload_n rfl dX11_measure_57 zhd) fs_X11_40 dX11_measure_58 zhd) (CA.int (CE.iload_n rfl dX11_measure_61 zhd) (CA.int (CE.iload_n rfl dX11_measure_62 zhd) (CA.int (CE.iload_n rfl dX11_measure_63 zhd) CA.nil)))) zi_82 cv_X11_195 (fun _ => rfl) dX11_measure_64 zhd) dX11_measure_67))))
theorem dX11_known_0 : decode cX11_known 0 = .ok (.iload_n 1, 1) := by decide +kernel
theorem dX11_known_1 : decode cX11_known 1 = .ok (.aload_n 0, 1) := by decide +kernel
theorem dX11_known_2 : decode cX11_known 2 = .ok (.getfield 40, 3) := by decide +kernel
theorem dX11_known_5 : decode cX11_known 5 = .ok (.getfield 189, 3) := by decide +kernel
theorem dX11_known_8 : decode cX11_known 8 = .ok (.invokestatic 86, 3) := by decide +kernel
theorem dX11_known_11 : decode cX11_known 11 = .ok (.ifCond .ne 6, 3) := by decide +kernel
theorem dX11_known_14 : decode cX11_known 14 = .ok (.bipush (-101), 2) := by decide +kernel
theorem dX11_known_16 : decode cX11_known 16 = .ok (.ireturn, 1) := by decide +kernel
theorem dX11_known_17 : decode cX11_known 17 = .ok (.iload_n 2, 1) := by decide +kernel
theorem dX11_known_18 : decode cX11_known 18 = .ok (.iconst 2, 1) := by decide +kernel
theorem dX11_known_19 : decode cX11_known 19 = .ok (.invokestatic 86, 3) := by decide +kernel
theorem dX11_known_22 : decode cX11_known 22 = .ok (.ifCond .ne 6, 3) := by decide +kernel
theorem dX11_known_25 : decode cX11_known 25 = .ok (.bipush (-102), 2) := by decide +kernel
theorem dX11_known_27 : decode cX11_known 27 = .ok (.ireturn, 1) := by decide +kernel
theorem dX11_known_28 : decode cX11_known 28 = .ok (.iload_n 2, 1) := by decide +kernel
theorem dX11_known_29 : decode cX11_known 29 = .ok (.ifCond .ne 15, 3) := by decide +kernel
theorem dX11_known_32 : decode cX11_known 32 = .ok (.aload_n 0, 1) := by decide +kernel
theorem dX11_known_33 : decode cX11_known 33 = .ok (.getfield 40, 3) := by decide +kernel
theorem dX11_known_36 : decode cX11_known 36 = .ok (.getfield 199, 3) := by decide +kernel
theorem dX11_known_39 : decode cX11_known 39 = .ok (.iload_n 1, 1) := by decide +kernel
theorem dX11_known_40 : decode cX11_known 40 = .ok (.iaload, 1) := by decide +kernel
theorem dX11_known_41 : decode cX11_known 41 = .ok (.goto 12, 3) := by decide +kernel
theorem dX11_known_44 : decode cX11_known 44 = .ok (.aload_n 0, 1) := by decide +kernel
theorem dX11_known_45 : decode cX11_known 45 = .ok (.getfield 40, 3) := by decide +kernel
theorem dX11_known_48 : decode cX11_known 48 = .ok (.getfield 202, 3) := by decide +kernel
theorem dX11_known_51 : decode cX11_known 51 = .ok (.iload_n 1, 1) := by decide +kernel
theorem dX11_known_52 : decode cX11_known 52 = .ok (.iaload, 1) := by decide +kernel
theorem dX11_known_53 : decode cX11_known 53 = .ok (.ireturn, 1) := by decide +kernel
theorem cd_104 (G : ZG) (d : Nat) (K : ZKt) (F : ZFt) (hT : zt5 G.2.2.2) : CS G RX11 cX11_known 3 d K (some .int) [] (fun _ => []) 0 (bd_104 G.2.2.2 K F) := by
  unfold bd_104
  exact (CS.seq 17 (CS.if1 (T := 14) (F := 17) (CD.pure (CC.not (CC.if_ne_T (T := 17) (F := 14) (CE.callS (by decide) (CA.int (CE.iload_n rfl dX11_known_0 zhd) (CA.int (CE.getI (CE.getR (CE.aload_n rfl dX11_known_1 zhd) fs_X11_40 dX11_known_2 zhd) fs_X11_189 dX11_known_5 zhd) CA.nil)) zi_129 cs_X11_86 (fun _ => rfl) dX11_known_8 zhd) dX11_known_11 rfl rfl))) (CS.retI (CX.pure (CE.bipush kB_m101 dX11_known_14 zhd)) dX11_known_16) zhd)
  (CS.seq 28 (CS.if1 (T := 25) (F := 28) (CD.pure (CC.not (CC.if_ne_T (T := 28) (F := 25) (CE.callS (by decide) (CA.int (CE.iload_n rfl dX11_known_17 zhd) (CA.int (CE.iconst kI_2 dX11_known_18 zhd) CA.nil)) zi_129 cs_X11_86 (fun _ => rfl) dX11_known_19 zhd) dX11_known_22 rfl rfl))) (CS.retI (CX.pure (CE.bipush kB_m102 dX11_known_25 zhd)) dX11_known_27) zhd)
  (CS.retI (CX.pure (CE.tern (T := 32) (F := 44) (p1 := 41) (q := 53) (CC.if_eq_F (T := 32) (F := 44) (CE.iload_n rfl dX11_known_28 zhd) dX11_known_29 rfl rfl) (CE.aldI (CE.getR (CE.getR (CE.aload_n rfl dX11_known_32 zhd) fs_X11_40 dX11_known_33 zhd) fs_X11_199 dX11_known_36 zhd) (CE.iload_n rfl dX11_known_39 zhd) (Or.inl ⟨rfl, dX11_known_40⟩) zhd) zex2 dX11_known_41 rfl zhd (CE.aldI (CE.getR (CE.getR (CE.aload_n rfl dX11_known_44 zhd) fs_X11_40 dX11_known_45 zhd) fs_X11_202 dX11_known_48 zhd) (CE.iload_n rfl dX11_known_51 zhd) (Or.inl ⟨rfl, dX11_known_52⟩) zhd))) dX11_known_53)))
theorem dX11_pairs_0 : decode cX11_pairs 0 = .ok (.iload_n 1, 1) := by decide +kernel
theorem dX11_pairs_1 : decode cX11_pairs 1 = .ok (.bipush 8, 2) := by decide +kernel
theorem dX11_pairs_3 : decode cX11_pairs 3 = .ok (.invokestatic 86, 3) := by decide +kernel
theorem dX11_pairs_6 : decode cX11_pairs 6 = .ok (.ifCond .eq 17, 3) := by decide +kernel
theorem dX11_pairs_9 : decode cX11_pairs 9 = .ok (.iload_n 2, 1) := by decide +kernel
theorem dX11_pairs_10 : decode cX11_pairs 10 = .ok (.bipush 8, 2) := by decide +kernel
theorem dX11_pairs_12 : decode cX11_pairs 12 = .ok (.invokestatic 86, 3) := by decide +kernel
theorem dX11_pairs_15 : decode cX11_pairs 15 = .ok (.ifCond .eq 8, 3) := by decide +kernel
theorem dX11_pairs_18 : decode cX11_pairs 18 = .ok (.iload_n 1, 1) := by decide +kernel
theorem dX11_pairs_19 : decode cX11_pairs 19 = .ok (.iload_n 2, 1) := by decide +kernel
theorem dX11_pairs_20 : decode cX11_pairs 20 = .ok (.if_icmp .ne 6, 3) := by decide +kernel
theorem dX11_pairs_23 : decode cX11_pairs 23 = .ok (.bipush (-101), 2) := by decide +kernel
theorem dX11_pairs_25 : decode cX11_pairs 25 = .ok (.ireturn, 1) := by decide +kernel
theorem dX11_pairs_26 : decode cX11_pairs 26 = .ok (.iload_n 3, 1) := by decide +kernel
theorem dX11_pairs_27 : decode cX11_pairs 27 = .ok (.sipush (-9999), 3) := by decide +kernel
theorem dX11_pairs_30 : decode cX11_pairs 30 = .ok (.sipush 9999, 3) := by decide +kernel
theorem dX11_pairs_33 : decode cX11_pairs 33 = .ok (.invokestatic 94, 3) := by decide +kernel
theorem dX11_pairs_36 : decode cX11_pairs 36 = .ok (.ifCond .eq 15, 3) := by decide +kernel
theorem dX11_pairs_39 : decode cX11_pairs 39 = .ok (.iload 4, 2) := by decide +kernel
theorem dX11_pairs_41 : decode cX11_pairs 41 = .ok (.iload_n 3, 1) := by decide +kernel
theorem dX11_pairs_42 : decode cX11_pairs 42 = .ok (.sipush 9999, 3) := by decide +kernel
theorem dX11_pairs_45 : decode cX11_pairs 45 = .ok (.invokestatic 94, 3) := by decide +kernel
theorem dX11_pairs_48 : decode cX11_pairs 48 = .ok (.ifCond .ne 6, 3) := by decide +kernel
theorem dX11_pairs_51 : decode cX11_pairs 51 = .ok (.bipush (-102), 2) := by decide +kernel
theorem dX11_pairs_53 : decode cX11_pairs 53 = .ok (.ireturn, 1) := by decide +kernel
theorem dX11_pairs_54 : decode cX11_pairs 54 = .ok (.iload 5, 2) := by decide +kernel
theorem dX11_pairs_56 : decode cX11_pairs 56 = .ok (.ifCond .eq 18, 3) := by decide +kernel
theorem dX11_pairs_59 : decode cX11_pairs 59 = .ok (.iload 5, 2) := by decide +kernel
theorem dX11_pairs_61 : decode cX11_pairs 61 = .ok (.bipush 10, 2) := by decide +kernel
theorem dX11_pairs_63 : decode cX11_pairs 63 = .ok (.bipush 33, 2) := by decide +kernel
theorem dX11_pairs_65 : decode cX11_pairs 65 = .ok (.invokestatic 94, 3) := by decide +kernel
theorem dX11_pairs_68 : decode cX11_pairs 68 = .ok (.ifCond .ne 6, 3) := by decide +kernel
theorem dX11_pairs_71 : decode cX11_pairs 71 = .ok (.bipush (-102), 2) := by decide +kernel
theorem dX11_pairs_73 : decode cX11_pairs 73 = .ok (.ireturn, 1) := by decide +kernel
theorem dX11_pairs_74 : decode cX11_pairs 74 = .ok (.aload_n 0, 1) := by decide +kernel
theorem dX11_pairs_75 : decode cX11_pairs 75 = .ok (.getfield 47, 3) := by decide +kernel
theorem dX11_pairs_78 : decode cX11_pairs 78 = .ok (.aload_n 0, 1) := by decide +kernel
theorem dX11_pairs_79 : decode cX11_pairs 79 = .ok (.getfield 40, 3) := by decide +kernel
theorem dX11_pairs_82 : decode cX11_pairs 82 = .ok (.iload_n 1, 1) := by decide +kernel
theorem dX11_pairs_83 : decode cX11_pairs 83 = .ok (.iload_n 2, 1) := by decide +kernel
theorem dX11_pairs_84 : decode cX11_pairs 84 = .ok (.iload_n 3, 1) := by decide +kernel
theorem dX11_pairs_85 : decode cX11_pairs 85 = .ok (.iload 4, 2) := by decide +kernel
theorem dX11_pairs_87 : decode cX11_pairs 87 = .ok (.invokevirtual 205, 3) := by decide +kernel
theorem dX11_pairs_90 : decode cX11_pairs 90 = .ok (.aload_n 0, 1) := by decide +kernel
theorem dX11_pairs_91 : decode cX11_pairs 91 = .ok (.getfield 47, 3) := by decide +kernel
theorem dX11_pairs_94 : decode cX11_pairs 94 = .ok (.invokevirtual 209, 3) := by decide +kernel
theorem dX11_pairs_97 : decode cX11_pairs 97 = .ok (.iload 5, 2) := by decide +kernel
theorem dX11_pairs_99 : decode cX11_pairs 99 = .ok (.ifCond .ne 11, 3) := by decide +kernel
theorem dX11_pairs_102 : decode cX11_pairs 102 = .ok (.aload_n 0, 1) := by decide +kernel
theorem dX11_pairs_103 : decode cX11_pairs 103 = .ok (.getfield 47, 3) := by decide +kernel
theorem dX11_pairs_106 : decode cX11_pairs 106 = .ok (.invokevirtual 212, 3) := by decide +kernel
theorem dX11_pairs_109 : decode cX11_pairs 109 = .ok (.ireturn, 1) := by decide +kernel
theorem dX11_pairs_110 : decode cX11_pairs 110 = .ok (.aload_n 0, 1) := by decide +kernel
theorem dX11_pairs_111 : decode cX11_pairs 111 = .ok (.getfield 47, 3) := by decide +kernel
theorem dX11_pairs_114 : decode cX11_pairs 114 = .ok (.iload 5, 2) := by decide +kernel
theorem dX11_pairs_116 : decode cX11_pairs 116 = .ok (.bipush 10, 2) := by decide +kernel
theorem dX11_pairs_118 : decode cX11_pairs 118 = .ok (.isub, 1) := by decide +kernel
theorem dX11_pairs_119 : decode cX11_pairs 119 = .ok (.invokevirtual 216, 3) := by decide +kernel
theorem dX11_pairs_122 : decode cX11_pairs 122 = .ok (.ireturn, 1) := by decide +kernel
theorem cd_105 (G : ZG) (d : Nat) (K : ZKt) (F : ZFt) (hT : zt5 G.2.2.2) : CS G RX11 cX11_pairs 6 d K (some .int) [] (fun _ => []) 0 (bd_105 G.2.2.2 K F) := by
  unfold bd_105
  exact (CS.seq 26 (CS.if1 (T := 23) (F := 26) (CD.pure (CC.or (CC.or (CC.not (CC.if_ne_F (T := 9) (F := 23) (CE.callS (by decide) (CA.int (CE.iload_n rfl dX11_pairs_0 zhd) (CA.int (CE.bipush kB_8 dX11_pairs_1 zhd) CA.nil)) zi_129 cs_X11_86 (fun _ => rfl) dX11_pairs_3 zhd) dX11_pairs_6 rfl rfl)) (CC.not (CC.if_ne_F (T := 18) (F := 23) (CE.callS (by decide) (CA.int (CE.iload_n rfl dX11_pairs_9 zhd) (CA.int (CE.bipush kB_8 dX11_pairs_10 zhd) CA.nil)) zi_129 cs_X11_86 (fun _ => rfl) dX11_pairs_12 zhd) dX11_pairs_15 rfl rfl))) (CC.icmp_eq_F (T := 23) (F := 26) (CE.iload_n rfl dX11_pairs_18 zhd) (CE.iload_n rfl dX11_pairs_19 zhd) dX11_pairs_20 rfl rfl))) (CS.retI (CX.pure (CE.bipush kB_m101 dX11_pairs_23 zhd)) dX11_pairs_25) zhd)
  (CS.seq 54 (CS.if1 (T := 51) (F := 54) (CD.pure (CC.or (CC.not (CC.if_ne_F (T := 39) (F := 51) (CE.callS (by decide) (CA.int (CE.iload_n rfl dX11_pairs_26 zhd) (CA.int (CE.sipush kS_m9999 dX11_pairs_27 zhd) (CA.int (CE.sipush kS_9999 dX11_pairs_30 zhd) CA.nil))) zi_130 cs_X11_94 (fun _ => rfl) dX11_pairs_33 zhd) dX11_pairs_36 rfl rfl)) (CC.not (CC.if_ne_T (T := 54) (F := 51) (CE.callS (by decide) (CA.int (CE.iload dX11_pairs_39 zhd) (CA.int (CE.iload_n rfl dX11_pairs_41 zhd) (CA.int (CE.sipush kS_9999 dX11_pairs_42 zhd) CA.nil))) zi_130 cs_X11_94 (fun _ => rfl) dX11_pairs_45 zhd) dX11_pairs_48 rfl rfl)))) (CS.retI (CX.pure (CE.bipush kB_m102 dX11_pairs_51 zhd)) dX11_pairs_53) zhd)
  (CS.seq 74 (CS.if1 (T := 71) (F := 74) (CD.pure (CC.and (CC.if_ne_F (T := 59) (F := 74) (CE.iload dX11_pairs_54 zhd) dX11_pairs_56 rfl rfl) (CC.not (CC.if_ne_T (T := 74) (F := 71) (CE.callS (by decide) (CA.int (CE.iload dX11_pairs_59 zhd) (CA.int (CE.bipush kB_10 dX11_pairs_61 zhd) (CA.int (CE.bipush kB_33 dX11_pairs_63 zhd) CA.nil))) zi_130 cs_X11_94 (fun _ => rfl) dX11_pairs_65 zhd) dX11_pairs_68 rfl rfl)))) (CS.retI (CX.pure (CE.bipush kB_m102 dX11_pairs_71 zhd)) dX11_pairs_73) zhd)
  (CS.seq 90 (CS.callV (CA.ref (CE.getR (CE.aload_n rfl dX11_pairs_74 zhd) fs_X11_47 dX11_pairs_75 zhd) (CA.ref (CE.getR (CE.aload_n rfl dX11_pairs_78 zhd) fs_X11_40 dX11_pairs_79 zhd) (CA.int (CE.iload_n rfl dX11_pairs_82 zhd) (CA.int (CE.iload_n rfl dX11_pairs_83 zhd) (CA.int (CE.iload_n rfl dX11_pairs_84 zhd) (CA.int (CE.iload dX11_pairs_85 zhd) CA.nil)))))) zi_62 cv_X11_205 (fun _ => rfl) dX11_pairs_87 zhd)
  (CS.seq 97 (CS.callV (CA.ref (CE.getR (CE.aload_n rfl dX11_pairs_90 zhd) fs_X11_47 dX11_pairs_91 zhd) CA.nil) zi_63 cv_X11_209 (fun _ => rfl) dX11_pairs_94 zhd)
  (CS.seq 110 (CS.if1 (T := 102) (F := 110) (CD.pure (CC.if_eq_F (T := 102) (F := 110) (CE.iload dX11_pairs_97 zhd) dX11_pairs_99 rfl rfl)) (CS.retI (CX.pure (CE.callV (by decide) (CA.ref (CE.getR (CE.aload_n rfl dX11_pairs_102 zhd) fs_X11_47 dX11_pairs_103 zhd) CA.nil) zi_69 cv_X11_212 (fun _ => rfl) dX11_pairs_106 zhd)) dX11_pairs_109) zhd)
  (CS.retI (CX.pure (CE.callV (by decide) (CA.ref (CE.getR (CE.aload_n rfl dX11_pairs_110 zhd) fs_X11_47 dX11_pairs_111 zhd) (CA.int (CE.isub (CE.iload dX11_pairs_114 zhd) (CE.bipush kB_10 dX11_pairs_116 zhd) dX11_pairs_118 zhd) CA.nil)) zi_70 cv_X11_216 (fun _ => rfl) dX11_pairs_119 zhd)) dX11_pairs_122)))))))
theorem dX11_put_0 : decode cX11_put 0 = .ok (.iload_n 1, 1) := by decide +kernel
theorem dX11_put_1 : decode cX11_put 1 = .ok (.bipush 6, 2) := by decide +kernel
theorem dX11_put_3 : decode cX11_put 3 = .ok (.invokestatic 86, 3) := by decide +kernel
theorem dX11_put_6 : decode cX11_put 6 = .ok (.ifCond .eq 17, 3) := by decide +kernel
theorem dX11_put_9 : decode cX11_put 9 = .ok (.iload_n 2, 1) := by decide +kernel
theorem dX11_put_10 : decode cX11_put 10 = .ok (.aload_n 0, 1) := by decide +kernel
theorem dX11_put_11 : decode cX11_put 11 = .ok (.getfield 40, 3) := by decide +kernel
theorem dX11_put_14 : decode cX11_put 14 = .ok (.getfield 189, 3) := by decide +kernel
theorem dX11_put_17 : decode cX11_put 17 = .ok (.invokestatic 86, 3) := by decide +kernel
theorem dX11_put_20 : decode cX11_put 20 = .ok (.ifCond .ne 6, 3) := by decide +kernel
theorem dX11_put_23 : decode cX11_put 23 = .ok (.bipush (-101), 2) := by decide +kernel
theorem dX11_put_25 : decode cX11_put 25 = .ok (.ireturn, 1) := by decide +kernel
theorem dX11_put_26 : decode cX11_put 26 = .ok (.aload_n 0, 1) := by decide +kernel
theorem dX11_put_27 : decode cX11_put 27 = .ok (.getfield 54, 3) := by decide +kernel
theorem dX11_put_30 : decode cX11_put 30 = .ok (.iload_n 1, 1) := by decide +kernel
theorem dX11_put_31 : decode cX11_put 31 = .ok (.iload_n 2, 1) := by decide +kernel
theorem dX11_put_32 : decode cX11_put 32 = .ok (.aload_n 0, 1) := by decide +kernel
theorem dX11_put_33 : decode cX11_put 33 = .ok (.getfield 40, 3) := by decide +kernel
theorem dX11_put_36 : decode cX11_put 36 = .ok (.getfield 219, 3) := by decide +kernel
theorem dX11_put_39 : decode cX11_put 39 = .ok (.iload_n 2, 1) := by decide +kernel
theorem dX11_put_40 : decode cX11_put 40 = .ok (.iaload, 1) := by decide +kernel
theorem dX11_put_41 : decode cX11_put 41 = .ok (.invokevirtual 222, 3) := by decide +kernel
theorem dX11_put_44 : decode cX11_put 44 = .ok (.ireturn, 1) := by decide +kernel
theorem cd_106 (G : ZG) (d : Nat) (K : ZKt) (F : ZFt) (hT : zt5 G.2.2.2) : CS G RX11 cX11_put 3 d K (some .int) [] (fun _ => []) 0 (bd_106 G.2.2.2 K F) := by
  unfold bd_106
  exact (CS.seq 26 (CS.if1 (T := 23) (F := 26) (CD.pure (CC.or (CC.not (CC.if_ne_F (T := 9) (F := 23) (CE.callS (by decide) (CA.int (CE.iload_n rfl dX11_put_0 zhd) (CA.int (CE.bipush kB_6 dX11_put_1 zhd) CA.nil)) zi_129 cs_X11_86 (fun _ => rfl) dX11_put_3 zhd) dX11_put_6 rfl rfl)) (CC.not (CC.if_ne_T (T := 26) (F := 23) (CE.callS (by decide) (CA.int (CE.iload_n rfl dX11_put_9 zhd) (CA.int (CE.getI (CE.getR (CE.aload_n rfl dX11_put_10 zhd) fs_X11_40 dX11_put_11 zhd) fs_X11_189 dX11_put_14 zhd) CA.nil)) zi_129 cs_X11_86 (fun _ => rfl) dX11_put_17 zhd) dX11_put_20 rfl rfl)))) (CS.retI (CX.pure (CE.bipush kB_m101 dX11_put_23 zhd)) dX11_put_25) zhd)
  (CS.retI (CX.callV (by decide) (CA.ref (CE.getR (CE.aload_n rfl dX11_put_26 zhd) fs_X11_54 dX11_put_27 zhd) (CA.int (CE.iload_n rfl dX11_put_30 zhd) (CA.int (CE.iload_n rfl dX11_put_31 zhd) (CA.int (CE.aldI (CE.getR (CE.getR (CE.aload_n rfl dX11_put_32 zhd) fs_X11_40 dX11_put_33 zhd) fs_X11_219 dX11_put_36 zhd) (CE.iload_n rfl dX11_put_39 zhd) (Or.inl ⟨rfl, dX11_put_40⟩) zhd) CA.nil)))) zi_33 cv_X11_222 (fun _ => rfl) dX11_put_41 zhd) dX11_put_44))
theorem dX11_in_0 : decode cX11_in 0 = .ok (.iload_n 1, 1) := by decide +kernel
theorem dX11_in_1 : decode cX11_in 1 = .ok (.bipush 6, 2) := by decide +kernel
theorem dX11_in_3 : decode cX11_in 3 = .ok (.invokestatic 86, 3) := by decide +kernel
theorem dX11_in_6 : decode cX11_in 6 = .ok (.ifCond .eq 12, 3) := by decide +kernel
theorem dX11_in_9 : decode cX11_in 9 = .ok (.iload_n 2, 1) := by decide +kernel
theorem dX11_in_10 : decode cX11_in 10 = .ok (.bipush 8, 2) := by decide +kernel
theorem dX11_in_12 : decode cX11_in 12 = .ok (.invokestatic 86, 3) := by decide +kernel
theorem dX11_in_15 : decode cX11_in 15 = .ok (.ifCond .ne 6, 3) := by decide +kernel
theorem dX11_in_18 : decode cX11_in 18 = .ok (.bipush (-101), 2) := by decide +kernel
theorem dX11_in_20 : decode cX11_in 20 = .ok (.ireturn, 1) := by decide +kernel
theorem dX11_in_21 : decode cX11_in 21 = .ok (.aload_n 0, 1) := by decide +kernel
theorem dX11_in_22 : decode cX11_in 22 = .ok (.getfield 54, 3) := by decide +kernel
theorem dX11_in_25 : decode cX11_in 25 = .ok (.getfield 225, 3) := by decide +kernel
theorem dX11_in_28 : decode cX11_in 28 = .ok (.iload_n 1, 1) := by decide +kernel
theorem dX11_in_29 : decode cX11_in 29 = .ok (.aaload, 1) := by decide +kernel
theorem dX11_in_30 : decode cX11_in 30 = .ok (.iload_n 2, 1) := by decide +kernel
theorem dX11_in_31 : decode cX11_in 31 = .ok (.iaload, 1) := by decide +kernel
theorem dX11_in_32 : decode cX11_in 32 = .ok (.ireturn, 1) := by decide +kernel
theorem cd_107 (G : ZG) (d : Nat) (K : ZKt) (F : ZFt) (hT : zt5 G.2.2.2) : CS G RX11 cX11_in 3 d K (some .int) [] (fun _ => []) 0 (bd_107 G.2.2.2 K F) := by
  unfold bd_107
  exact (CS.seq 21 (CS.if1 (T := 18) (F := 21) (CD.pure (CC.or (CC.not (CC.if_ne_F (T := 9) (F := 18) (CE.callS (by decide) (CA.int (CE.iload_n rfl dX11_in_0 zhd) (CA.int (CE.bipush kB_6 dX11_in_1 zhd) CA.nil)) zi_129 cs_X11_86 (fun _ => rfl) dX11_in_3 zhd) dX11_in_6 rfl rfl)) (CC.not (CC.if_ne_T (T := 21) (F := 18) (CE.callS (by decide) (CA.int (CE.iload_n rfl dX11_in_9 zhd) (CA.int (CE.bipush kB_8 dX11_in_10 zhd) CA.nil)) zi_129 cs_X11_86 (fun _ => rfl) dX11_in_12 zhd) dX11_in_15 rfl rfl)))) (CS.retI (CX.pure (CE.bipush kB_m101 dX11_in_18 zhd)) dX11_in_20) zhd)
  (CS.retI (CX.pure (CE.aldI (CE.aldR (CE.getR (CE.getR (CE.aload_n rfl dX11_in_21 zhd) fs_X11_54 dX11_in_22 zhd) fs_X11_225 dX11_in_25 zhd) (CE.iload_n rfl dX11_in_28 zhd) dX11_in_29 zhd) (CE.iload_n rfl dX11_in_30 zhd) (Or.inl ⟨rfl, dX11_in_31⟩) zhd)) dX11_in_32))
theorem dX11_right_0 : decode cX11_right 0 = .ok (.iload_n 1, 1) := by decide +kernel
theorem dX11_right_1 : decode cX11_right 1 = .ok (.bipush 6, 2) := by decide +kernel
theorem dX11_right_3 : decode cX11_right 3 = .ok (.invokestatic 86, 3) := by decide +kernel
theorem dX11_right_6 : decode cX11_right 6 = .ok (.ifCond .eq 17, 3) := by decide +kernel
theorem dX11_right_9 : decode cX11_right 9 = .ok (.iload_n 2, 1) := by decide +kernel
theorem dX11_right_10 : decode cX11_right 10 = .ok (.aload_n 0, 1) := by decide +kernel
theorem dX11_right_11 : decode cX11_right 11 = .ok (.getfield 26, 3) := by decide +kernel
theorem dX11_right_14 : decode cX11_right 14 = .ok (.getfield 161, 3) := by decide +kernel
theorem dX11_right_17 : decode cX11_right 17 = .ok (.invokestatic 86, 3) := by decide +kernel
theorem dX11_right_20 : decode cX11_right 20 = .ok (.ifCond .ne 6, 3) := by decide +kernel
theorem dX11_right_23 : decode cX11_right 23 = .ok (.bipush (-101), 2) := by decide +kernel
theorem dX11_right_25 : decode cX11_right 25 = .ok (.ireturn, 1) := by decide +kernel
theorem dX11_right_26 : decode cX11_right 26 = .ok (.aload_n 0, 1) := by decide +kernel
theorem dX11_right_27 : decode cX11_right 27 = .ok (.getfield 54, 3) := by decide +kernel
theorem dX11_right_30 : decode cX11_right 30 = .ok (.iload_n 1, 1) := by decide +kernel
theorem dX11_right_31 : decode cX11_right 31 = .ok (.iload_n 2, 1) := by decide +kernel
theorem dX11_right_32 : decode cX11_right 32 = .ok (.aload_n 0, 1) := by decide +kernel
theorem dX11_right_33 : decode cX11_right 33 = .ok (.getfield 26, 3) := by decide +kernel
theorem dX11_right_36 : decode cX11_right 36 = .ok (.aload_n 0, 1) := by decide +kernel
theorem dX11_right_37 : decode cX11_right 37 = .ok (.getfield 40, 3) := by decide +kernel
theorem dX11_right_40 : decode cX11_right 40 = .ok (.invokevirtual 228, 3) := by decide +kernel
theorem dX11_right_43 : decode cX11_right 43 = .ok (.ifCond .eq 7, 3) := by decide +kernel
theorem dX11_right_46 : decode cX11_right 46 = .ok (.iconst 1, 1) := by decide +kernel
theorem dX11_right_47 : decode cX11_right 47 = .ok (.goto 4, 3) := by decide +kernel
theorem dX11_right_50 : decode cX11_right 50 = .ok (.iconst 0, 1) := by decide +kernel
theorem dX11_right_51 : decode cX11_right 51 = .ok (.ireturn, 1) := by decide +kernel
theorem cd_108 (G : ZG) (d : Nat) (K : ZKt) (F : ZFt) (hT : zt5 G.2.2.2) : CS G RX11 cX11_right 3 d K (some .int) [] (fun _ => []) 0 (bd_108 G.2.2.2 K F) := by
  unfold bd_108
  exact (CS.seq 26 (CS.if1 (T := 23) (F := 26) (CD.pure (CC.or (CC.not (CC.if_ne_F (T := 9) (F := 23) (CE.callS (by decide) (CA.int (CE.iload_n rfl dX11_right_0 zhd) (CA.int (CE.bipush kB_6 dX11_right_1 zhd) CA.nil)) zi_129 cs_X11_86 (fun _ => rfl) dX11_right_3 zhd) dX11_right_6 rfl rfl)) (CC.not (CC.if_ne_T (T := 26) (F := 23) (CE.callS (by decide) (CA.int (CE.iload_n rfl dX11_right_9 zhd) (CA.int (CE.getI (CE.getR (CE.aload_n rfl dX11_right_10 zhd) fs_X11_26 dX11_right_11 zhd) fs_X11_161 dX11_right_14 zhd) CA.nil)) zi_129 cs_X11_86 (fun _ => rfl) dX11_right_17 zhd) dX11_right_20 rfl rfl)))) (CS.retI (CX.pure (CE.bipush kB_m101 dX11_right_23 zhd)) dX11_right_25) zhd)
  (CS.retI (CX.pure (CE.tern (T := 46) (F := 50) (p1 := 47) (q := 51) (CC.if_ne_F (T := 46) (F := 50) (CE.callV (by decide) (CA.ref (CE.getR (CE.aload_n rfl dX11_right_26 zhd) fs_X11_54 dX11_right_27 zhd) (CA.int (CE.iload_n rfl dX11_right_30 zhd) (CA.int (CE.iload_n rfl dX11_right_31 zhd) (CA.ref (CE.getR (CE.aload_n rfl dX11_right_32 zhd) fs_X11_26 dX11_right_33 zhd) (CA.ref (CE.getR (CE.aload_n rfl dX11_right_36 zhd) fs_X11_40 dX11_right_37 zhd) CA.nil))))) zi_35 cv_X11_228 (fun _ => rfl) dX11_right_40 zhd) dX11_right_43 rfl rfl) (CE.iconst kI_1 dX11_right_46 zhd) zex2 dX11_right_47 rfl zhd (CE.iconst kI_0 dX11_right_50 zhd))) dX11_right_51))
theorem dX11_all_0 : decode cX11_all 0 = .ok (.aload_n 0, 1) := by decide +kernel
theorem dX11_all_1 : decode cX11_all 1 = .ok (.getfield 54, 3) := by decide +kernel
theorem dX11_all_4 : decode cX11_all 4 = .ok (.aload_n 0, 1) := by decide +kernel
theorem dX11_all_5 : decode cX11_all 5 = .ok (.getfield 26, 3) := by decide +kernel
theorem dX11_all_8 : decode cX11_all 8 = .ok (.aload_n 0, 1) := by decide +kernel
theorem dX11_all_9 : decode cX11_all 9 = .ok (.getfield 40, 3) := by decide +kernel
theorem dX11_all_12 : decode cX11_all 12 = .ok (.invokevirtual 232, 3) := by decide +kernel
theorem dX11_all_15 : decode cX11_all 15 = .ok (.ireturn, 1) := by decide +kernel
theorem cd_109 (G : ZG) (d : Nat) (K : ZKt) (F : ZFt) (hT : zt5 G.2.2.2) : CS G RX11 cX11_all 1 d K (some .int) [] (fun _ => []) 0 (bd_109 G.2.2.2 K F) := by
  unfold bd_109
  exact (CS.retI (CX.pure (CE.callV (by decide) (CA.ref (CE.getR (CE.aload_n rfl dX11_all_0 zhd) fs_X11_54 dX11_all_1 zhd) (CA.ref (CE.getR (CE.aload_n rfl dX11_all_4 zhd) fs_X11_26 dX11_all_5 zhd) (CA.ref (CE.getR (CE.aload_n rfl dX11_all_8 zhd) fs_X11_40 dX11_all_9 zhd) CA.nil))) zi_37 cv_X11_232 (fun _ => rfl) dX11_all_12 zhd)) dX11_all_15)
theorem dX11_swap_0 : decode cX11_swap 0 = .ok (.iload_n 1, 1) := by decide +kernel
theorem dX11_swap_1 : decode cX11_swap 1 = .ok (.iconst 3, 1) := by decide +kernel
theorem dX11_swap_2 : decode cX11_swap 2 = .ok (.invokestatic 86, 3) := by decide +kernel
theorem dX11_swap_5 : decode cX11_swap 5 = .ok (.ifCond .ne 6, 3) := by decide +kernel
theorem dX11_swap_8 : decode cX11_swap 8 = .ok (.bipush (-102), 2) := by decide +kernel
theorem dX11_swap_10 : decode cX11_swap 10 = .ok (.ireturn, 1) := by decide +kernel
theorem dX11_swap_11 : decode cX11_swap 11 = .ok (.aload_n 0, 1) := by decide +kernel
theorem dX11_swap_12 : decode cX11_swap 12 = .ok (.getfield 54, 3) := by decide +kernel
theorem dX11_swap_15 : decode cX11_swap 15 = .ok (.aload_n 0, 1) := by decide +kernel
theorem dX11_swap_16 : decode cX11_swap 16 = .ok (.getfield 26, 3) := by decide +kernel
theorem dX11_swap_19 : decode cX11_swap 19 = .ok (.aload_n 0, 1) := by decide +kernel
theorem dX11_swap_20 : decode cX11_swap 20 = .ok (.getfield 40, 3) := by decide +kernel
theorem dX11_swap_23 : decode cX11_swap 23 = .ok (.invokevirtual 236, 3) := by decide +kernel
theorem dX11_swap_26 : decode cX11_swap 26 = .ok (.ifCond .ne 5, 3) := by decide +kernel
theorem dX11_swap_29 : decode cX11_swap 29 = .ok (.iconst (-1), 1) := by decide +kernel
theorem dX11_swap_30 : decode cX11_swap 30 = .ok (.ireturn, 1) := by decide +kernel
theorem dX11_swap_31 : decode cX11_swap 31 = .ok (.iload_n 1, 1) := by decide +kernel
theorem dX11_swap_32 : decode cX11_swap 32 = .ok (.ifCond .ne 11, 3) := by decide +kernel
theorem dX11_swap_35 : decode cX11_swap 35 = .ok (.aload_n 0, 1) := by decide +kernel
theorem dX11_swap_36 : decode cX11_swap 36 = .ok (.getfield 54, 3) := by decide +kernel
theorem dX11_swap_39 : decode cX11_swap 39 = .ok (.getfield 240, 3) := by decide +kernel
theorem dX11_swap_42 : decode cX11_swap 42 = .ok (.ireturn, 1) := by decide +kernel
theorem dX11_swap_43 : decode cX11_swap 43 = .ok (.iload_n 1, 1) := by decide +kernel
theorem dX11_swap_44 : decode cX11_swap 44 = .ok (.iconst 1, 1) := by decide +kernel
theorem dX11_swap_45 : decode cX11_swap 45 = .ok (.if_icmp .ne 13, 3) := by decide +kernel
theorem dX11_swap_48 : decode cX11_swap 48 = .ok (.aload_n 0, 1) := by decide +kernel
theorem dX11_swap_49 : decode cX11_swap 49 = .ok (.getfield 54, 3) := by decide +kernel
theorem dX11_swap_52 : decode cX11_swap 52 = .ok (.getfield 243, 3) := by decide +kernel
theorem dX11_swap_55 : decode cX11_swap 55 = .ok (.goto 10, 3) := by decide +kernel
theorem dX11_swap_58 : decode cX11_swap 58 = .ok (.aload_n 0, 1) := by decide +kernel
theorem dX11_swap_59 : decode cX11_swap 59 = .ok (.getfield 54, 3) := by decide +kernel
theorem dX11_swap_62 : decode cX11_swap 62 = .ok (.getfield 246, 3) := by decide +kernel
theorem dX11_swap_65 : decode cX11_swap 65 = .ok (.ireturn, 1) := by decide +kernel
theorem cd_110 (G : ZG) (d : Nat) (K : ZKt) (F : ZFt) (hT : zt5 G.2.2.2) : CS G RX11 cX11_swap 2 d K (some .int) [] (fun _ => []) 0 (bd_110 G.2.2.2 K F) := by
  unfold bd_110
  exact (CS.seq 11 (CS.if1 (T := 8) (F := 11) (CD.pure (CC.not (CC.if_ne_T (T := 11) (F := 8) (CE.callS (by decide) (CA.int (CE.iload_n rfl dX11_swap_0 zhd) (CA.int (CE.iconst kI_3 dX11_swap_1 zhd) CA.nil)) zi_129 cs_X11_86 (fun _ => rfl) dX11_swap_2 zhd) dX11_swap_5 rfl rfl))) (CS.retI (CX.pure (CE.bipush kB_m102 dX11_swap_8 zhd)) dX11_swap_10) zhd)
  (CS.seq 31 (CS.if1 (T := 29) (F := 31) (CD.not (CD.nz_T (T := 31) (F := 29) (CX.callV (by decide) (CA.ref (CE.getR (CE.aload_n rfl dX11_swap_11 zhd) fs_X11_54 dX11_swap_12 zhd) (CA.ref (CE.getR (CE.aload_n rfl dX11_swap_15 zhd) fs_X11_26 dX11_swap_16 zhd) (CA.ref (CE.getR (CE.aload_n rfl dX11_swap_19 zhd) fs_X11_40 dX11_swap_20 zhd) CA.nil))) zi_38 cv_X11_236 (fun _ => rfl) dX11_swap_23 zhd) dX11_swap_26 rfl rfl)) (CS.retI (CX.pure (CE.iconst kI_m1 dX11_swap_29 zhd)) dX11_swap_30) zhd)
  (CS.seq 43 (CS.if1 (T := 35) (F := 43) (CD.pure (CC.if_eq_F (T := 35) (F := 43) (CE.iload_n rfl dX11_swap_31 zhd) dX11_swap_32 rfl rfl)) (CS.retI (CX.pure (CE.getI (CE.getR (CE.aload_n rfl dX11_swap_35 zhd) fs_X11_54 dX11_swap_36 zhd) fs_X11_240 dX11_swap_39 zhd)) dX11_swap_42) zhd)
  (CS.retI (CX.pure (CE.tern (T := 48) (F := 58) (p1 := 55) (q := 65) (CC.icmp_eq_F (T := 48) (F := 58) (CE.iload_n rfl dX11_swap_43 zhd) (CE.iconst kI_1 dX11_swap_44 zhd) dX11_swap_45 rfl rfl) (CE.getI (CE.getR (CE.aload_n rfl dX11_swap_48 zhd) fs_X11_54 dX11_swap_49 zhd) fs_X11_243 dX11_swap_52 zhd) zex2 dX11_swap_55 rfl zhd (CE.getI (CE.getR (CE.aload_n rfl dX11_swap_58 zhd) fs_X11_54 dX11_swap_59 zhd) fs_X11_246 dX11_swap_62 zhd))) dX11_swap_65))))
theorem dX11_told_0 : decode cX11_told 0 = .ok (.iload_n 1, 1) := by decide +kernel
theorem dX11_told_1 : decode cX11_told 1 = .ok (.bipush 6, 2) := by decide +kernel
theorem dX11_told_3 : decode cX11_told 3 = .ok (.invokestatic 86, 3) := by decide +kernel
theorem dX11_told_6 : decode cX11_told 6 = .ok (.ifCond .ne 6, 3) := by decide +kernel
theorem dX11_told_9 : decode cX11_told 9 = .ok (.bipush (-101), 2) := by decide +kernel
theorem dX11_told_11 : decode cX11_told 11 = .ok (.ireturn, 1) := by decide +kernel
theorem dX11_told_12 : decode cX11_told 12 = .ok (.iload_n 2, 1) := by decide +kernel
theorem dX11_told_13 : decode cX11_told 13 = .ok (.iconst 3, 1) := by decide +kernel
theorem dX11_told_14 : decode cX11_told 14 = .ok (.invokestatic 86, 3) := by decide +kernel
theorem dX11_told_17 : decode cX11_told 17 = .ok (.ifCond .ne 6, 3) := by decide +kernel
theorem dX11_told_20 : decode cX11_told 20 = .ok (.bipush (-102), 2) := by decide +kernel
theorem dX11_told_22 : decode cX11_told 22 = .ok (.ireturn, 1) := by decide +kernel
theorem dX11_told_23 : decode cX11_told 23 = .ok (.aload_n 0, 1) := by decide +kernel
theorem dX11_told_24 : decode cX11_told 24 = .ok (.getfield 54, 3) := by decide +kernel
theorem dX11_told_27 : decode cX11_told 27 = .ok (.getfield 249, 3) := by decide +kernel
theorem dX11_told_30 : decode cX11_told 30 = .ok (.iload_n 1, 1) := by decide +kernel
theorem dX11_told_31 : decode cX11_told 31 = .ok (.iload_n 2, 1) := by decide +kernel
theorem dX11_told_32 : decode cX11_told 32 = .ok (.invokestatic 106, 3) := by decide +kernel
theorem dX11_told_35 : decode cX11_told 35 = .ok (.ireturn, 1) := by decide +kernel
theorem cd_111 (G : ZG) (d : Nat) (K : ZKt) (F : ZFt) (hT : zt5 G.2.2.2) : CS G RX11 cX11_told 3 d K (some .int) [] (fun _ => []) 0 (bd_111 G.2.2.2 K F) := by
  unfold bd_111
  exact (CS.seq 12 (CS.if1 (T := 9) (F := 12) (CD.pure (CC.not (CC.if_ne_T (T := 12) (F := 9) (CE.callS (by decide) (CA.int (CE.iload_n rfl dX11_told_0 zhd) (CA.int (CE.bipush kB_6 dX11_told_1 zhd) CA.nil)) zi_129 cs_X11_86 (fun _ => rfl) dX11_told_3 zhd) dX11_told_6 rfl rfl))) (CS.retI (CX.pure (CE.bipush kB_m101 dX11_told_9 zhd)) dX11_told_11) zhd)
  (CS.seq 23 (CS.if1 (T := 20) (F := 23) (CD.pure (CC.not (CC.if_ne_T (T := 23) (F := 20) (CE.callS (by decide) (CA.int (CE.iload_n rfl dX11_told_12 zhd) (CA.int (CE.iconst kI_3 dX11_told_13 zhd) CA.nil)) zi_129 cs_X11_86 (fun _ => rfl) dX11_told_14 zhd) dX11_told_17 rfl rfl))) (CS.retI (CX.pure (CE.bipush kB_m102 dX11_told_20 zhd)) dX11_told_22) zhd)
  (CS.retI (CX.callS (by decide) (CA.ref (CE.getR (CE.getR (CE.aload_n rfl dX11_told_23 zhd) fs_X11_54 dX11_told_24 zhd) fs_X11_249 dX11_told_27 zhd) (CA.int (CE.iload_n rfl dX11_told_30 zhd) (CA.int (CE.iload_n rfl dX11_told_31 zhd) CA.nil))) zi_131 cs_X11_106 (fun _ => rfl) dX11_told_32 zhd) dX11_told_35)))
theorem dX11_blamed_0 : decode cX11_blamed 0 = .ok (.aload_n 0, 1) := by decide +kernel
theorem dX11_blamed_1 : decode cX11_blamed 1 = .ok (.getfield 54, 3) := by decide +kernel
theorem dX11_blamed_4 : decode cX11_blamed 4 = .ok (.aload_n 0, 1) := by decide +kernel
theorem dX11_blamed_5 : decode cX11_blamed 5 = .ok (.getfield 40, 3) := by decide +kernel
theorem dX11_blamed_8 : decode cX11_blamed 8 = .ok (.invokevirtual 252, 3) := by decide +kernel
theorem dX11_blamed_11 : decode cX11_blamed 11 = .ok (.ireturn, 1) := by decide +kernel
theorem cd_112 (G : ZG) (d : Nat) (K : ZKt) (F : ZFt) (hT : zt5 G.2.2.2) : CS G RX11 cX11_blamed 1 d K (some .int) [] (fun _ => []) 0 (bd_112 G.2.2.2 K F) := by
  unfold bd_112
  exact (CS.retI (CX.callV (by decide) (CA.ref (CE.getR (CE.aload_n rfl dX11_blamed_0 zhd) fs_X11_54 dX11_blamed_1 zhd) (CA.ref (CE.getR (CE.aload_n rfl dX11_blamed_4 zhd) fs_X11_40 dX11_blamed_5 zhd) CA.nil)) zi_41 cv_X11_252 (fun _ => rfl) dX11_blamed_8 zhd) dX11_blamed_11)
theorem dX11_called_0 : decode cX11_called 0 = .ok (.aload_n 0, 1) := by decide +kernel
theorem dX11_called_1 : decode cX11_called 1 = .ok (.getfield 54, 3) := by decide +kernel
theorem dX11_called_4 : decode cX11_called 4 = .ok (.aload_n 0, 1) := by decide +kernel
theorem dX11_called_5 : decode cX11_called 5 = .ok (.getfield 40, 3) := by decide +kernel
theorem dX11_called_8 : decode cX11_called 8 = .ok (.invokevirtual 252, 3) := by decide +kernel
theorem dX11_called_11 : decode cX11_called 11 = .ok (.istore_n 1, 1) := by decide +kernel
theorem dX11_called_12 : decode cX11_called 12 = .ok (.iload_n 1, 1) := by decide +kernel
theorem dX11_called_13 : decode cX11_called 13 = .ok (.iconst (-1), 1) := by decide +kernel
theorem dX11_called_14 : decode cX11_called 14 = .ok (.if_icmp .ne 7, 3) := by decide +kernel
theorem dX11_called_17 : decode cX11_called 17 = .ok (.iconst (-1), 1) := by decide +kernel
theorem dX11_called_18 : decode cX11_called 18 = .ok (.goto 15, 3) := by decide +kernel
theorem dX11_called_21 : decode cX11_called 21 = .ok (.aload_n 0, 1) := by decide +kernel
theorem dX11_called_22 : decode cX11_called 22 = .ok (.getfield 54, 3) := by decide +kernel
theorem dX11_called_25 : decode cX11_called 25 = .ok (.iload_n 1, 1) := by decide +kernel
theorem dX11_called_26 : decode cX11_called 26 = .ok (.aload_n 0, 1) := by decide +kernel
theorem dX11_called_27 : decode cX11_called 27 = .ok (.getfield 40, 3) := by decide +kernel
theorem dX11_called_30 : decode cX11_called 30 = .ok (.invokevirtual 256, 3) := by decide +kernel
theorem dX11_called_33 : decode cX11_called 33 = .ok (.ireturn, 1) := by decide +kernel
theorem cd_113 (G : ZG) (d : Nat) (K : ZKt) (F : ZFt) (hT : zt5 G.2.2.2) : CS G RX11 cX11_called 2 d K (some .int) [] (fun _ => []) 0 (bd_113 G.2.2.2 K F) := by
  unfold bd_113
  exact (CS.seq 12 (CS.decI_n (CX.callV (by decide) (CA.ref (CE.getR (CE.aload_n rfl dX11_called_0 zhd) fs_X11_54 dX11_called_1 zhd) (CA.ref (CE.getR (CE.aload_n rfl dX11_called_4 zhd) fs_X11_40 dX11_called_5 zhd) CA.nil)) zi_41 cv_X11_252 (fun _ => rfl) dX11_called_8 zhd) rfl (by decide) dX11_called_11 zhd)
  (CS.retI (CX.pure (CE.tern (T := 17) (F := 21) (p1 := 18) (q := 33) (CC.icmp_eq_F (T := 17) (F := 21) (CE.iload_n rfl dX11_called_12 zhd) (CE.iconst kI_m1 dX11_called_13 zhd) dX11_called_14 rfl rfl) (CE.iconst kI_m1 dX11_called_17 zhd) zex2 dX11_called_18 rfl zhd (CE.callV (by decide) (CA.ref (CE.getR (CE.aload_n rfl dX11_called_21 zhd) fs_X11_54 dX11_called_22 zhd) (CA.int (CE.iload_n rfl dX11_called_25 zhd) (CA.ref (CE.getR (CE.aload_n rfl dX11_called_26 zhd) fs_X11_40 dX11_called_27 zhd) CA.nil))) zi_44 cv_X11_256 (fun _ => rfl) dX11_called_30 zhd))) dX11_called_33))
theorem dX11_hours_0 : decode cX11_hours 0 = .ok (.iload_n 1, 1) := by decide +kernel
theorem dX11_hours_1 : decode cX11_hours 1 = .ok (.iconst 4, 1) := by decide +kernel
theorem dX11_hours_2 : decode cX11_hours 2 = .ok (.invokestatic 86, 3) := by decide +kernel
theorem dX11_hours_5 : decode cX11_hours 5 = .ok (.ifCond .ne 6, 3) := by decide +kernel
theorem dX11_hours_8 : decode cX11_hours 8 = .ok (.bipush (-101), 2) := by decide +kernel
theorem dX11_hours_10 : decode cX11_hours 10 = .ok (.ireturn, 1) := by decide +kernel
theorem dX11_hours_11 : decode cX11_hours 11 = .ok (.iload_n 2, 1) := by decide +kernel
theorem dX11_hours_12 : decode cX11_hours 12 = .ok (.iconst 1, 1) := by decide +kernel
theorem dX11_hours_13 : decode cX11_hours 13 = .ok (.bipush 24, 2) := by decide +kernel
theorem dX11_hours_15 : decode cX11_hours 15 = .ok (.invokestatic 94, 3) := by decide +kernel
theorem dX11_hours_18 : decode cX11_hours 18 = .ok (.ifCond .ne 6, 3) := by decide +kernel
theorem dX11_hours_21 : decode cX11_hours 21 = .ok (.bipush (-102), 2) := by decide +kernel
theorem dX11_hours_23 : decode cX11_hours 23 = .ok (.ireturn, 1) := by decide +kernel
theorem dX11_hours_24 : decode cX11_hours 24 = .ok (.aload_n 0, 1) := by decide +kernel
theorem dX11_hours_25 : decode cX11_hours 25 = .ok (.getfield 61, 3) := by decide +kernel
theorem dX11_hours_28 : decode cX11_hours 28 = .ok (.getfield 260, 3) := by decide +kernel
theorem dX11_hours_31 : decode cX11_hours 31 = .ok (.iload_n 1, 1) := by decide +kernel
theorem dX11_hours_32 : decode cX11_hours 32 = .ok (.iload_n 2, 1) := by decide +kernel
theorem dX11_hours_33 : decode cX11_hours 33 = .ok (.invokestatic 106, 3) := by decide +kernel
theorem dX11_hours_36 : decode cX11_hours 36 = .ok (.ireturn, 1) := by decide +kernel
theorem cd_114 (G : ZG) (d : Nat) (K : ZKt) (F : ZFt) (hT : zt5 G.2.2.2) : CS G RX11 cX11_hours 3 d K (some .int) [] (fun _ => []) 0 (bd_114 G.2.2.2 K F) := by
  unfold bd_114
  exact (CS.seq 11 (CS.if1 (T := 8) (F := 11) (CD.pure (CC.not (CC.if_ne_T (T := 11) (F := 8) (CE.callS (by decide) (CA.int (CE.iload_n rfl dX11_hours_0 zhd) (CA.int (CE.iconst kI_4 dX11_hours_1 zhd) CA.nil)) zi_129 cs_X11_86 (fun _ => rfl) dX11_hours_2 zhd) dX11_hours_5 rfl rfl))) (CS.retI (CX.pure (CE.bipush kB_m101 dX11_hours_8 zhd)) dX11_hours_10) zhd)
  (CS.seq 24 (CS.if1 (T := 21) (F := 24) (CD.pure (CC.not (CC.if_ne_T (T := 24) (F := 21) (CE.callS (by decide) (CA.int (CE.iload_n rfl dX11_hours_11 zhd) (CA.int (CE.iconst kI_1 dX11_hours_12 zhd) (CA.int (CE.bipush kB_24 dX11_hours_13 zhd) CA.nil))) zi_130 cs_X11_94 (fun _ => rfl) dX11_hours_15 zhd) dX11_hours_18 rfl rfl))) (CS.retI (CX.pure (CE.bipush kB_m102 dX11_hours_21 zhd)) dX11_hours_23) zhd)
  (CS.retI (CX.callS (by decide) (CA.ref (CE.getR (CE.getR (CE.aload_n rfl dX11_hours_24 zhd) fs_X11_61 dX11_hours_25 zhd) fs_X11_260 dX11_hours_28 zhd) (CA.int (CE.iload_n rfl dX11_hours_31 zhd) (CA.int (CE.iload_n rfl dX11_hours_32 zhd) CA.nil))) zi_131 cs_X11_106 (fun _ => rfl) dX11_hours_33 zhd) dX11_hours_36)))
theorem dX11_offer_0 : decode cX11_offer 0 = .ok (.iload_n 1, 1) := by decide +kernel
theorem dX11_offer_1 : decode cX11_offer 1 = .ok (.iconst 4, 1) := by decide +kernel
theorem dX11_offer_2 : decode cX11_offer 2 = .ok (.invokestatic 86, 3) := by decide +kernel
theorem dX11_offer_5 : decode cX11_offer 5 = .ok (.ifCond .eq 12, 3) := by decide +kernel
theorem dX11_offer_8 : decode cX11_offer 8 = .ok (.iload_n 2, 1) := by decide +kernel
theorem dX11_offer_9 : decode cX11_offer 9 = .ok (.bipush 8, 2) := by decide +kernel
theorem dX11_offer_11 : decode cX11_offer 11 = .ok (.invokestatic 86, 3) := by decide +kernel
theorem dX11_offer_14 : decode cX11_offer 14 = .ok (.ifCond .ne 6, 3) := by decide +kernel
theorem dX11_offer_17 : decode cX11_offer 17 = .ok (.bipush (-101), 2) := by decide +kernel
theorem dX11_offer_19 : decode cX11_offer 19 = .ok (.ireturn, 1) := by decide +kernel
theorem dX11_offer_20 : decode cX11_offer 20 = .ok (.iload_n 3, 1) := by decide +kernel
theorem dX11_offer_21 : decode cX11_offer 21 = .ok (.iconst 0, 1) := by decide +kernel
theorem dX11_offer_22 : decode cX11_offer 22 = .ok (.sipush 999, 3) := by decide +kernel
theorem dX11_offer_25 : decode cX11_offer 25 = .ok (.invokestatic 94, 3) := by decide +kernel
theorem dX11_offer_28 : decode cX11_offer 28 = .ok (.ifCond .ne 6, 3) := by decide +kernel
theorem dX11_offer_31 : decode cX11_offer 31 = .ok (.bipush (-102), 2) := by decide +kernel
theorem dX11_offer_33 : decode cX11_offer 33 = .ok (.ireturn, 1) := by decide +kernel
theorem dX11_offer_34 : decode cX11_offer 34 = .ok (.iload_n 3, 1) := by decide +kernel
theorem dX11_offer_35 : decode cX11_offer 35 = .ok (.ifCond .eq 17, 3) := by decide +kernel
theorem dX11_offer_38 : decode cX11_offer 38 = .ok (.iload 4, 2) := by decide +kernel
theorem dX11_offer_40 : decode cX11_offer 40 = .ok (.iconst 1, 1) := by decide +kernel
theorem dX11_offer_41 : decode cX11_offer 41 = .ok (.bipush 99, 2) := by decide +kernel
theorem dX11_offer_43 : decode cX11_offer 43 = .ok (.invokestatic 94, 3) := by decide +kernel
theorem dX11_offer_46 : decode cX11_offer 46 = .ok (.ifCond .ne 6, 3) := by decide +kernel
theorem dX11_offer_49 : decode cX11_offer 49 = .ok (.bipush (-102), 2) := by decide +kernel
theorem dX11_offer_51 : decode cX11_offer 51 = .ok (.ireturn, 1) := by decide +kernel
theorem dX11_offer_52 : decode cX11_offer 52 = .ok (.aload_n 0, 1) := by decide +kernel
theorem dX11_offer_53 : decode cX11_offer 53 = .ok (.getfield 61, 3) := by decide +kernel
theorem dX11_offer_56 : decode cX11_offer 56 = .ok (.getfield 263, 3) := by decide +kernel
theorem dX11_offer_59 : decode cX11_offer 59 = .ok (.iload_n 1, 1) := by decide +kernel
theorem dX11_offer_60 : decode cX11_offer 60 = .ok (.aaload, 1) := by decide +kernel
theorem dX11_offer_61 : decode cX11_offer 61 = .ok (.iload_n 2, 1) := by decide +kernel
theorem dX11_offer_62 : decode cX11_offer 62 = .ok (.iload_n 3, 1) := by decide +kernel
theorem dX11_offer_63 : decode cX11_offer 63 = .ok (.ifCond .ne 7, 3) := by decide +kernel
theorem dX11_offer_66 : decode cX11_offer 66 = .ok (.iconst 0, 1) := by decide +kernel
theorem dX11_offer_67 : decode cX11_offer 67 = .ok (.goto 5, 3) := by decide +kernel
theorem dX11_offer_70 : decode cX11_offer 70 = .ok (.iload 4, 2) := by decide +kernel
theorem dX11_offer_72 : decode cX11_offer 72 = .ok (.iastore, 1) := by decide +kernel
theorem dX11_offer_73 : decode cX11_offer 73 = .ok (.aload_n 0, 1) := by decide +kernel
theorem dX11_offer_74 : decode cX11_offer 74 = .ok (.getfield 61, 3) := by decide +kernel
theorem dX11_offer_77 : decode cX11_offer 77 = .ok (.getfield 266, 3) := by decide +kernel
theorem dX11_offer_80 : decode cX11_offer 80 = .ok (.iload_n 1, 1) := by decide +kernel
theorem dX11_offer_81 : decode cX11_offer 81 = .ok (.aaload, 1) := by decide +kernel
theorem dX11_offer_82 : decode cX11_offer 82 = .ok (.iload_n 2, 1) := by decide +kernel
theorem dX11_offer_83 : decode cX11_offer 83 = .ok (.iload_n 3, 1) := by decide +kernel
theorem dX11_offer_84 : decode cX11_offer 84 = .ok (.invokestatic 106, 3) := by decide +kernel
theorem dX11_offer_87 : decode cX11_offer 87 = .ok (.ireturn, 1) := by decide +kernel
theorem cd_115 (G : ZG) (d : Nat) (K : ZKt) (F : ZFt) (hT : zt5 G.2.2.2) : CS G RX11 cX11_offer 5 d K (some .int) [] (fun _ => []) 0 (bd_115 G.2.2.2 K F) := by
  unfold bd_115
  exact (CS.seq 20 (CS.if1 (T := 17) (F := 20) (CD.pure (CC.or (CC.not (CC.if_ne_F (T := 8) (F := 17) (CE.callS (by decide) (CA.int (CE.iload_n rfl dX11_offer_0 zhd) (CA.int (CE.iconst kI_4 dX11_offer_1 zhd) CA.nil)) zi_129 cs_X11_86 (fun _ => rfl) dX11_offer_2 zhd) dX11_offer_5 rfl rfl)) (CC.not (CC.if_ne_T (T := 20) (F := 17) (CE.callS (by decide) (CA.int (CE.iload_n rfl dX11_offer_8 zhd) (CA.int (CE.bipush kB_8 dX11_offer_9 zhd) CA.nil)) zi_129 cs_X11_86 (fun _ => rfl) dX11_offer_11 zhd) dX11_offer_14 rfl rfl)))) (CS.retI (CX.pure (CE.bipush kB_m101 dX11_offer_17 zhd)) dX11_offer_19) zhd)
  (CS.seq 34 (CS.if1 (T := 31) (F := 34) (CD.pure (CC.not (CC.if_ne_T (T := 34) (F := 31) (CE.callS (by decide) (CA.int (CE.iload_n rfl dX11_offer_20 zhd) (CA.int (CE.iconst kI_0 dX11_offer_21 zhd) (CA.int (CE.sipush kS_999 dX11_offer_22 zhd) CA.nil))) zi_130 cs_X11_94 (fun _ => rfl) dX11_offer_25 zhd) dX11_offer_28 rfl rfl))) (CS.retI (CX.pure (CE.bipush kB_m102 dX11_offer_31 zhd)) dX11_offer_33) zhd)
  (CS.seq 52 (CS.if1 (T := 49) (F := 52) (CD.pure (CC.and (CC.if_ne_F (T := 38) (F := 52) (CE.iload_n rfl dX11_offer_34 zhd) dX11_offer_35 rfl rfl) (CC.not (CC.if_ne_T (T := 52) (F := 49) (CE.callS (by decide) (CA.int (CE.iload dX11_offer_38 zhd) (CA.int (CE.iconst kI_1 dX11_offer_40 zhd) (CA.int (CE.bipush kB_99 dX11_offer_41 zhd) CA.nil))) zi_130 cs_X11_94 (fun _ => rfl) dX11_offer_43 zhd) dX11_offer_46 rfl rfl)))) (CS.retI (CX.pure (CE.bipush kB_m102 dX11_offer_49 zhd)) dX11_offer_51) zhd)
  (CS.seq 73 (CS.st (CE.aldR (CE.getR (CE.getR (CE.aload_n rfl dX11_offer_52 zhd) fs_X11_61 dX11_offer_53 zhd) fs_X11_263 dX11_offer_56 zhd) (CE.iload_n rfl dX11_offer_59 zhd) dX11_offer_60 zhd) (CX.pure (CE.iload_n rfl dX11_offer_61 zhd)) (CX.pure (CE.tern (T := 66) (F := 70) (p1 := 67) (q := 72) (CC.if_eq_F (T := 66) (F := 70) (CE.iload_n rfl dX11_offer_62 zhd) dX11_offer_63 rfl rfl) (CE.iconst kI_0 dX11_offer_66 zhd) zex2 dX11_offer_67 rfl zhd (CE.iload dX11_offer_70 zhd))) (Or.inl ⟨rfl, dX11_offer_72⟩) zhd)
  (CS.retI (CX.callS (by decide) (CA.ref (CE.aldR (CE.getR (CE.getR (CE.aload_n rfl dX11_offer_73 zhd) fs_X11_61 dX11_offer_74 zhd) fs_X11_266 dX11_offer_77 zhd) (CE.iload_n rfl dX11_offer_80 zhd) dX11_offer_81 zhd) (CA.int (CE.iload_n rfl dX11_offer_82 zhd) (CA.int (CE.iload_n rfl dX11_offer_83 zhd) CA.nil))) zi_131 cs_X11_106 (fun _ => rfl) dX11_offer_84 zhd) dX11_offer_87)))))
theorem dX11_order_0 : decode cX11_order 0 = .ok (.iload_n 1, 1) := by decide +kernel
theorem dX11_order_1 : decode cX11_order 1 = .ok (.bipush 8, 2) := by decide +kernel
theorem dX11_order_3 : decode cX11_order 3 = .ok (.invokestatic 86, 3) := by decide +kernel
theorem dX11_order_6 : decode cX11_order 6 = .ok (.ifCond .ne 6, 3) := by decide +kernel
theorem dX11_order_9 : decode cX11_order 9 = .ok (.bipush (-101), 2) := by decide +kernel
theorem dX11_order_11 : decode cX11_order 11 = .ok (.ireturn, 1) := by decide +kernel
theorem dX11_order_12 : decode cX11_order 12 = .ok (.iload_n 2, 1) := by decide +kernel
theorem dX11_order_13 : decode cX11_order 13 = .ok (.iconst 1, 1) := by decide +kernel
theorem dX11_order_14 : decode cX11_order 14 = .ok (.bipush 60, 2) := by decide +kernel
theorem dX11_order_16 : decode cX11_order 16 = .ok (.invokestatic 94, 3) := by decide +kernel
theorem dX11_order_19 : decode cX11_order 19 = .ok (.ifCond .ne 6, 3) := by decide +kernel
theorem dX11_order_22 : decode cX11_order 22 = .ok (.bipush (-102), 2) := by decide +kernel
theorem dX11_order_24 : decode cX11_order 24 = .ok (.ireturn, 1) := by decide +kernel
theorem dX11_order_25 : decode cX11_order 25 = .ok (.aload_n 0, 1) := by decide +kernel
theorem dX11_order_26 : decode cX11_order 26 = .ok (.getfield 68, 3) := by decide +kernel
theorem dX11_order_29 : decode cX11_order 29 = .ok (.getfield 269, 3) := by decide +kernel
theorem dX11_order_32 : decode cX11_order 32 = .ok (.bipush 6, 2) := by decide +kernel
theorem dX11_order_34 : decode cX11_order 34 = .ok (.if_icmp .lt 6, 3) := by decide +kernel
theorem dX11_order_37 : decode cX11_order 37 = .ok (.bipush (-104), 2) := by decide +kernel
theorem dX11_order_39 : decode cX11_order 39 = .ok (.ireturn, 1) := by decide +kernel
theorem dX11_order_40 : decode cX11_order 40 = .ok (.aload_n 0, 1) := by decide +kernel
theorem dX11_order_41 : decode cX11_order 41 = .ok (.getfield 68, 3) := by decide +kernel
theorem dX11_order_44 : decode cX11_order 44 = .ok (.iload_n 1, 1) := by decide +kernel
theorem dX11_order_45 : decode cX11_order 45 = .ok (.iload_n 2, 1) := by decide +kernel
theorem dX11_order_46 : decode cX11_order 46 = .ok (.invokevirtual 270, 3) := by decide +kernel
theorem dX11_order_49 : decode cX11_order 49 = .ok (.ireturn, 1) := by decide +kernel
theorem cd_116 (G : ZG) (d : Nat) (K : ZKt) (F : ZFt) (hT : zt5 G.2.2.2) : CS G RX11 cX11_order 3 d K (some .int) [] (fun _ => []) 0 (bd_116 G.2.2.2 K F) := by
  unfold bd_116
  exact (CS.seq 12 (CS.if1 (T := 9) (F := 12) (CD.pure (CC.not (CC.if_ne_T (T := 12) (F := 9) (CE.callS (by decide) (CA.int (CE.iload_n rfl dX11_order_0 zhd) (CA.int (CE.bipush kB_8 dX11_order_1 zhd) CA.nil)) zi_129 cs_X11_86 (fun _ => rfl) dX11_order_3 zhd) dX11_order_6 rfl rfl))) (CS.retI (CX.pure (CE.bipush kB_m101 dX11_order_9 zhd)) dX11_order_11) zhd)
  (CS.seq 25 (CS.if1 (T := 22) (F := 25) (CD.pure (CC.not (CC.if_ne_T (T := 25) (F := 22) (CE.callS (by decide) (CA.int (CE.iload_n rfl dX11_order_12 zhd) (CA.int (CE.iconst kI_1 dX11_order_13 zhd) (CA.int (CE.bipush kB_60 dX11_order_14 zhd) CA.nil))) zi_130 cs_X11_94 (fun _ => rfl) dX11_order_16 zhd) dX11_order_19 rfl rfl))) (CS.retI (CX.pure (CE.bipush kB_m102 dX11_order_22 zhd)) dX11_order_24) zhd)
  (CS.seq 40 (CS.if1 (T := 37) (F := 40) (CD.pure (CC.icmp_ge_F (T := 37) (F := 40) (CE.getI (CE.getR (CE.aload_n rfl dX11_order_25 zhd) fs_X11_68 dX11_order_26 zhd) fs_X11_269 dX11_order_29 zhd) (CE.bipush kB_6 dX11_order_32 zhd) dX11_order_34 rfl rfl)) (CS.retI (CX.pure (CE.bipush kB_m104 dX11_order_37 zhd)) dX11_order_39) zhd)
  (CS.retI (CX.callV (by decide) (CA.ref (CE.getR (CE.aload_n rfl dX11_order_40 zhd) fs_X11_68 dX11_order_41 zhd) (CA.int (CE.iload_n rfl dX11_order_44 zhd) (CA.int (CE.iload_n rfl dX11_order_45 zhd) CA.nil))) zi_46 cv_X11_270 (fun _ => rfl) dX11_order_46 zhd) dX11_order_49))))
theorem dX11_given_0 : decode cX11_given 0 = .ok (.iload_n 1, 1) := by decide +kernel
theorem dX11_given_1 : decode cX11_given 1 = .ok (.iconst (-1), 1) := by decide +kernel
theorem dX11_given_2 : decode cX11_given 2 = .ok (.if_icmp .eq 14, 3) := by decide +kernel
theorem dX11_given_5 : decode cX11_given 5 = .ok (.iload_n 1, 1) := by decide +kernel
theorem dX11_given_6 : decode cX11_given 6 = .ok (.iconst 4, 1) := by decide +kernel
theorem dX11_given_7 : decode cX11_given 7 = .ok (.invokestatic 86, 3) := by decide +kernel
theorem dX11_given_10 : decode cX11_given 10 = .ok (.ifCond .ne 6, 3) := by decide +kernel
theorem dX11_given_13 : decode cX11_given 13 = .ok (.bipush (-101), 2) := by decide +kernel
theorem dX11_given_15 : decode cX11_given 15 = .ok (.ireturn, 1) := by decide +kernel
theorem dX11_given_16 : decode cX11_given 16 = .ok (.iload_n 2, 1) := by decide +kernel
theorem dX11_given_17 : decode cX11_given 17 = .ok (.bipush 10, 2) := by decide +kernel
theorem dX11_given_19 : decode cX11_given 19 = .ok (.bipush 15, 2) := by decide +kernel
theorem dX11_given_21 : decode cX11_given 21 = .ok (.invokestatic 94, 3) := by decide +kernel
theorem dX11_given_24 : decode cX11_given 24 = .ok (.istore_n 3, 1) := by decide +kernel
theorem dX11_given_25 : decode cX11_given 25 = .ok (.iload_n 2, 1) := by decide +kernel
theorem dX11_given_26 : decode cX11_given 26 = .ok (.bipush 20, 2) := by decide +kernel
theorem dX11_given_28 : decode cX11_given 28 = .ok (.bipush 25, 2) := by decide +kernel
theorem dX11_given_30 : decode cX11_given 30 = .ok (.invokestatic 94, 3) := by decide +kernel
theorem dX11_given_33 : decode cX11_given 33 = .ok (.istore 4, 2) := by decide +kernel
theorem dX11_given_35 : decode cX11_given 35 = .ok (.iload_n 2, 1) := by decide +kernel
theorem dX11_given_36 : decode cX11_given 36 = .ok (.ifCond .eq 15, 3) := by decide +kernel
theorem dX11_given_39 : decode cX11_given 39 = .ok (.iload_n 3, 1) := by decide +kernel
theorem dX11_given_40 : decode cX11_given 40 = .ok (.ifCond .ne 11, 3) := by decide +kernel
theorem dX11_given_43 : decode cX11_given 43 = .ok (.iload 4, 2) := by decide +kernel
theorem dX11_given_45 : decode cX11_given 45 = .ok (.ifCond .ne 6, 3) := by decide +kernel
theorem dX11_given_48 : decode cX11_given 48 = .ok (.bipush (-102), 2) := by decide +kernel
theorem dX11_given_50 : decode cX11_given 50 = .ok (.ireturn, 1) := by decide +kernel
theorem dX11_given_51 : decode cX11_given 51 = .ok (.aload_n 0, 1) := by decide +kernel
theorem dX11_given_52 : decode cX11_given 52 = .ok (.getfield 68, 3) := by decide +kernel
theorem dX11_given_55 : decode cX11_given 55 = .ok (.getfield 271, 3) := by decide +kernel
theorem dX11_given_58 : decode cX11_given 58 = .ok (.bipush 40, 2) := by decide +kernel
theorem dX11_given_60 : decode cX11_given 60 = .ok (.if_icmp .lt 6, 3) := by decide +kernel
theorem dX11_given_63 : decode cX11_given 63 = .ok (.bipush (-103), 2) := by decide +kernel
theorem dX11_given_65 : decode cX11_given 65 = .ok (.ireturn, 1) := by decide +kernel
theorem dX11_given_66 : decode cX11_given 66 = .ok (.aload_n 0, 1) := by decide +kernel
theorem dX11_given_67 : decode cX11_given 67 = .ok (.getfield 68, 3) := by decide +kernel
theorem dX11_given_70 : decode cX11_given 70 = .ok (.iload_n 1, 1) := by decide +kernel
theorem dX11_given_71 : decode cX11_given 71 = .ok (.aload_n 0, 1) := by decide +kernel
theorem dX11_given_72 : decode cX11_given 72 = .ok (.getfield 61, 3) := by decide +kernel
theorem dX11_given_75 : decode cX11_given 75 = .ok (.invokevirtual 272, 3) := by decide +kernel
theorem dX11_given_78 : decode cX11_given 78 = .ok (.iload_n 3, 1) := by decide +kernel
theorem dX11_given_79 : decode cX11_given 79 = .ok (.ifCond .eq 15, 3) := by decide +kernel
theorem dX11_given_82 : decode cX11_given 82 = .ok (.aload_n 0, 1) := by decide +kernel
theorem dX11_given_83 : decode cX11_given 83 = .ok (.getfield 68, 3) := by decide +kernel
theorem dX11_given_86 : decode cX11_given 86 = .ok (.iload_n 2, 1) := by decide +kernel
theorem dX11_given_87 : decode cX11_given 87 = .ok (.bipush 10, 2) := by decide +kernel
theorem dX11_given_89 : decode cX11_given 89 = .ok (.isub, 1) := by decide +kernel
theorem dX11_given_90 : decode cX11_given 90 = .ok (.invokevirtual 275, 3) := by decide +kernel
theorem dX11_given_93 : decode cX11_given 93 = .ok (.ireturn, 1) := by decide +kernel
theorem dX11_given_94 : decode cX11_given 94 = .ok (.iload 4, 2) := by decide +kernel
theorem dX11_given_96 : decode cX11_given 96 = .ok (.ifCond .eq 21, 3) := by decide +kernel
theorem dX11_given_99 : decode cX11_given 99 = .ok (.aload_n 0, 1) := by decide +kernel
theorem dX11_given_100 : decode cX11_given 100 = .ok (.getfield 68, 3) := by decide +kernel
theorem dX11_given_103 : decode cX11_given 103 = .ok (.iload_n 2, 1) := by decide +kernel
theorem dX11_given_104 : decode cX11_given 104 = .ok (.bipush 20, 2) := by decide +kernel
theorem dX11_given_106 : decode cX11_given 106 = .ok (.isub, 1) := by decide +kernel
theorem dX11_given_107 : decode cX11_given 107 = .ok (.aload_n 0, 1) := by decide +kernel
theorem dX11_given_108 : decode cX11_given 108 = .ok (.getfield 61, 3) := by decide +kernel
theorem dX11_given_111 : decode cX11_given 111 = .ok (.invokevirtual 278, 3) := by decide +kernel
theorem dX11_given_114 : decode cX11_given 114 = .ok (.goto 10, 3) := by decide +kernel
theorem dX11_given_117 : decode cX11_given 117 = .ok (.aload_n 0, 1) := by decide +kernel
theorem dX11_given_118 : decode cX11_given 118 = .ok (.getfield 68, 3) := by decide +kernel
theorem dX11_given_121 : decode cX11_given 121 = .ok (.getfield 282, 3) := by decide +kernel
theorem dX11_given_124 : decode cX11_given 124 = .ok (.ireturn, 1) := by decide +kernel
theorem cd_117 (G : ZG) (d : Nat) (K : ZKt) (F : ZFt) (hT : zt5 G.2.2.2) : CS G RX11 cX11_given 5 d K (some .int) [] (fun _ => []) 0 (bd_117 G.2.2.2 K F) := by
  unfold bd_117
  exact (CS.seq 16 (CS.if1 (T := 13) (F := 16) (CD.pure (CC.and (CC.icmp_ne_F (T := 5) (F := 16) (CE.iload_n rfl dX11_given_0 zhd) (CE.iconst kI_m1 dX11_given_1 zhd) dX11_given_2 rfl rfl) (CC.not (CC.if_ne_T (T := 16) (F := 13) (CE.callS (by decide) (CA.int (CE.iload_n rfl dX11_given_5 zhd) (CA.int (CE.iconst kI_4 dX11_given_6 zhd) CA.nil)) zi_129 cs_X11_86 (fun _ => rfl) dX11_given_7 zhd) dX11_given_10 rfl rfl)))) (CS.retI (CX.pure (CE.bipush kB_m101 dX11_given_13 zhd)) dX11_given_15) zhd)
  (CS.seq 25 (CS.decI_n (CX.pure (CE.callS (by decide) (CA.int (CE.iload_n rfl dX11_given_16 zhd) (CA.int (CE.bipush kB_10 dX11_given_17 zhd) (CA.int (CE.bipush kB_15 dX11_given_19 zhd) CA.nil))) zi_130 cs_X11_94 (fun _ => rfl) dX11_given_21 zhd)) rfl (by decide) dX11_given_24 zhd)
  (CS.seq 35 (CS.decI (CX.pure (CE.callS (by decide) (CA.int (CE.iload_n rfl dX11_given_25 zhd) (CA.int (CE.bipush kB_20 dX11_given_26 zhd) (CA.int (CE.bipush kB_25 dX11_given_28 zhd) CA.nil))) zi_130 cs_X11_94 (fun _ => rfl) dX11_given_30 zhd)) (by decide) dX11_given_33 zhd)
  (CS.seq 51 (CS.if1 (T := 48) (F := 51) (CD.pure (CC.and (CC.and (CC.if_ne_F (T := 39) (F := 51) (CE.iload_n rfl dX11_given_35 zhd) dX11_given_36 rfl rfl) (CC.not (CC.if_ne_T (T := 51) (F := 43) (CE.iload_n rfl dX11_given_39 zhd) dX11_given_40 rfl rfl))) (CC.not (CC.if_ne_T (T := 51) (F := 48) (CE.iload dX11_given_43 zhd) dX11_given_45 rfl rfl)))) (CS.retI (CX.pure (CE.bipush kB_m102 dX11_given_48 zhd)) dX11_given_50) zhd)
  (CS.seq 66 (CS.if1 (T := 63) (F := 66) (CD.pure (CC.icmp_ge_F (T := 63) (F := 66) (CE.getI (CE.getR (CE.aload_n rfl dX11_given_51 zhd) fs_X11_68 dX11_given_52 zhd) fs_X11_271 dX11_given_55 zhd) (CE.bipush kB_40 dX11_given_58 zhd) dX11_given_60 rfl rfl)) (CS.retI (CX.pure (CE.bipush kB_m103 dX11_given_63 zhd)) dX11_given_65) zhd)
  (CS.seq 78 (CS.callV (CA.ref (CE.getR (CE.aload_n rfl dX11_given_66 zhd) fs_X11_68 dX11_given_67 zhd) (CA.int (CE.iload_n rfl dX11_given_70 zhd) (CA.ref (CE.getR (CE.aload_n rfl dX11_given_71 zhd) fs_X11_61 dX11_given_72 zhd) CA.nil))) zi_47 cv_X11_272 (fun _ => rfl) dX11_given_75 zhd)
  (CS.seq 94 (CS.if1 (T := 82) (F := 94) (CD.pure (CC.if_ne_F (T := 82) (F := 94) (CE.iload_n rfl dX11_given_78 zhd) dX11_given_79 rfl rfl)) (CS.retI (CX.pure (CE.callV (by decide) (CA.ref (CE.getR (CE.aload_n rfl dX11_given_82 zhd) fs_X11_68 dX11_given_83 zhd) (CA.int (CE.isub (CE.iload_n rfl dX11_given_86 zhd) (CE.bipush kB_10 dX11_given_87 zhd) dX11_given_89 zhd) CA.nil)) zi_50 cv_X11_275 (fun _ => rfl) dX11_given_90 zhd)) dX11_given_93) zhd)
  (CS.retI (CX.pure (CE.tern (T := 99) (F := 117) (p1 := 114) (q := 124) (CC.if_ne_F (T := 99) (F := 117) (CE.iload dX11_given_94 zhd) dX11_given_96 rfl rfl) (CE.callV (by decide) (CA.ref (CE.getR (CE.aload_n rfl dX11_given_99 zhd) fs_X11_68 dX11_given_100 zhd) (CA.int (CE.isub (CE.iload_n rfl dX11_given_103 zhd) (CE.bipush kB_20 dX11_given_104 zhd) dX11_given_106 zhd) (CA.ref (CE.getR (CE.aload_n rfl dX11_given_107 zhd) fs_X11_61 dX11_given_108 zhd) CA.nil))) zi_51 cv_X11_278 (fun _ => rfl) dX11_given_111 zhd) zex2 dX11_given_114 rfl zhd (CE.getI (CE.getR (CE.aload_n rfl dX11_given_117 zhd) fs_X11_68 dX11_given_118 zhd) fs_X11_282 dX11_given_121 zhd))) dX11_given_124))))))))
theorem dX11_late_0 : decode cX11_late 0 = .ok (.iload_n 1, 1) := by decide +kernel
theorem dX11_late_1 : decode cX11_late 1 = .ok (.iconst 4, 1) := by decide +kernel
theorem dX11_late_2 : decode cX11_late 2 = .ok (.invokestatic 86, 3) := by decide +kernel
theorem dX11_late_5 : decode cX11_late 5 = .ok (.ifCond .ne 6, 3) := by decide +kernel
theorem dX11_late_8 : decode cX11_late 8 = .ok (.bipush (-101), 2) := by decide +kernel
theorem dX11_late_10 : decode cX11_late 10 = .ok (.ireturn, 1) := by decide +kernel
theorem dX11_late_11 : decode cX11_late 11 = .ok (.iload_n 2, 1) := by decide +kernel
theorem dX11_late_12 : decode cX11_late 12 = .ok (.iconst 0, 1) := by decide +kernel
theorem dX11_late_13 : decode cX11_late 13 = .ok (.bipush 30, 2) := by decide +kernel
theorem dX11_late_15 : decode cX11_late 15 = .ok (.invokestatic 94, 3) := by decide +kernel
theorem dX11_late_18 : decode cX11_late 18 = .ok (.ifCond .ne 6, 3) := by decide +kernel
theorem dX11_late_21 : decode cX11_late 21 = .ok (.bipush (-102), 2) := by decide +kernel
theorem dX11_late_23 : decode cX11_late 23 = .ok (.ireturn, 1) := by decide +kernel
theorem dX11_late_24 : decode cX11_late 24 = .ok (.aload_n 0, 1) := by decide +kernel
theorem dX11_late_25 : decode cX11_late 25 = .ok (.getfield 61, 3) := by decide +kernel
theorem dX11_late_28 : decode cX11_late 28 = .ok (.getfield 283, 3) := by decide +kernel
theorem dX11_late_31 : decode cX11_late 31 = .ok (.iload_n 1, 1) := by decide +kernel
theorem dX11_late_32 : decode cX11_late 32 = .ok (.iaload, 1) := by decide +kernel
theorem dX11_late_33 : decode cX11_late 33 = .ok (.bipush 16, 2) := by decide +kernel
theorem dX11_late_35 : decode cX11_late 35 = .ok (.if_icmp .lt 6, 3) := by decide +kernel
theorem dX11_late_38 : decode cX11_late 38 = .ok (.bipush (-104), 2) := by decide +kernel
theorem dX11_late_40 : decode cX11_late 40 = .ok (.ireturn, 1) := by decide +kernel
theorem dX11_late_41 : decode cX11_late 41 = .ok (.aload_n 0, 1) := by decide +kernel
theorem dX11_late_42 : decode cX11_late 42 = .ok (.getfield 61, 3) := by decide +kernel
theorem dX11_late_45 : decode cX11_late 45 = .ok (.iload_n 1, 1) := by decide +kernel
theorem dX11_late_46 : decode cX11_late 46 = .ok (.iload_n 2, 1) := by decide +kernel
theorem dX11_late_47 : decode cX11_late 47 = .ok (.invokevirtual 286, 3) := by decide +kernel
theorem dX11_late_50 : decode cX11_late 50 = .ok (.ireturn, 1) := by decide +kernel
theorem cd_118 (G : ZG) (d : Nat) (K : ZKt) (F : ZFt) (hT : zt5 G.2.2.2) : CS G RX11 cX11_late 3 d K (some .int) [] (fun _ => []) 0 (bd_118 G.2.2.2 K F) := by
  unfold bd_118
  exact (CS.seq 11 (CS.if1 (T := 8) (F := 11) (CD.pure (CC.not (CC.if_ne_T (T := 11) (F := 8) (CE.callS (by decide) (CA.int (CE.iload_n rfl dX11_late_0 zhd) (CA.int (CE.iconst kI_4 dX11_late_1 zhd) CA.nil)) zi_129 cs_X11_86 (fun _ => rfl) dX11_late_2 zhd) dX11_late_5 rfl rfl))) (CS.retI (CX.pure (CE.bipush kB_m101 dX11_late_8 zhd)) dX11_late_10) zhd)
  (CS.seq 24 (CS.if1 (T := 21) (F := 24) (CD.pure (CC.not (CC.if_ne_T (T := 24) (F := 21) (CE.callS (by decide) (CA.int (CE.iload_n rfl dX11_late_11 zhd) (CA.int (CE.iconst kI_0 dX11_late_12 zhd) (CA.int (CE.bipush kB_30 dX11_late_13 zhd) CA.nil))) zi_130 cs_X11_94 (fun _ => rfl) dX11_late_15 zhd) dX11_late_18 rfl rfl))) (CS.retI (CX.pure (CE.bipush kB_m102 dX11_late_21 zhd)) dX11_late_23) zhd)
  (CS.seq 41 (CS.if1 (T := 38) (F := 41) (CD.pure (CC.icmp_ge_F (T := 38) (F := 41) (CE.aldI (CE.getR (CE.getR (CE.aload_n rfl dX11_late_24 zhd) fs_X11_61 dX11_late_25 zhd) fs_X11_283 dX11_late_28 zhd) (CE.iload_n rfl dX11_late_31 zhd) (Or.inl ⟨rfl, dX11_late_32⟩) zhd) (CE.bipush kB_16 dX11_late_33 zhd) dX11_late_35 rfl rfl)) (CS.retI (CX.pure (CE.bipush kB_m104 dX11_late_38 zhd)) dX11_late_40) zhd)
  (CS.retI (CX.callV (by decide) (CA.ref (CE.getR (CE.aload_n rfl dX11_late_41 zhd) fs_X11_61 dX11_late_42 zhd) (CA.int (CE.iload_n rfl dX11_late_45 zhd) (CA.int (CE.iload_n rfl dX11_late_46 zhd) CA.nil))) zi_75 cv_X11_286 (fun _ => rfl) dX11_late_47 zhd) dX11_late_50))))
theorem dX11_foretold_0 : decode cX11_foretold 0 = .ok (.iload_n 1, 1) := by decide +kernel
theorem dX11_foretold_1 : decode cX11_foretold 1 = .ok (.iconst 4, 1) := by decide +kernel
theorem dX11_foretold_2 : decode cX11_foretold 2 = .ok (.invokestatic 86, 3) := by decide +kernel
theorem dX11_foretold_5 : decode cX11_foretold 5 = .ok (.ifCond .ne 6, 3) := by decide +kernel
theorem dX11_foretold_8 : decode cX11_foretold 8 = .ok (.bipush (-101), 2) := by decide +kernel
theorem dX11_foretold_10 : decode cX11_foretold 10 = .ok (.ireturn, 1) := by decide +kernel
theorem dX11_foretold_11 : decode cX11_foretold 11 = .ok (.iload_n 2, 1) := by decide +kernel
theorem dX11_foretold_12 : decode cX11_foretold 12 = .ok (.iconst 1, 1) := by decide +kernel
theorem dX11_foretold_13 : decode cX11_foretold 13 = .ok (.bipush 100, 2) := by decide +kernel
theorem dX11_foretold_15 : decode cX11_foretold 15 = .ok (.invokestatic 94, 3) := by decide +kernel
theorem dX11_foretold_18 : decode cX11_foretold 18 = .ok (.ifCond .ne 6, 3) := by decide +kernel
theorem dX11_foretold_21 : decode cX11_foretold 21 = .ok (.bipush (-102), 2) := by decide +kernel
theorem dX11_foretold_23 : decode cX11_foretold 23 = .ok (.ireturn, 1) := by decide +kernel
theorem dX11_foretold_24 : decode cX11_foretold 24 = .ok (.aload_n 0, 1) := by decide +kernel
theorem dX11_foretold_25 : decode cX11_foretold 25 = .ok (.getfield 61, 3) := by decide +kernel
theorem dX11_foretold_28 : decode cX11_foretold 28 = .ok (.iload_n 1, 1) := by decide +kernel
theorem dX11_foretold_29 : decode cX11_foretold 29 = .ok (.iload_n 2, 1) := by decide +kernel
theorem dX11_foretold_30 : decode cX11_foretold 30 = .ok (.invokevirtual 289, 3) := by decide +kernel
theorem dX11_foretold_33 : decode cX11_foretold 33 = .ok (.ireturn, 1) := by decide +kernel
theorem cd_119 (G : ZG) (d : Nat) (K : ZKt) (F : ZFt) (hT : zt5 G.2.2.2) : CS G RX11 cX11_foretold 3 d K (some .int) [] (fun _ => []) 0 (bd_119 G.2.2.2 K F) := by
  unfold bd_119
  exact (CS.seq 11 (CS.if1 (T := 8) (F := 11) (CD.pure (CC.not (CC.if_ne_T (T := 11) (F := 8) (CE.callS (by decide) (CA.int (CE.iload_n rfl dX11_foretold_0 zhd) (CA.int (CE.iconst kI_4 dX11_foretold_1 zhd) CA.nil)) zi_129 cs_X11_86 (fun _ => rfl) dX11_foretold_2 zhd) dX11_foretold_5 rfl rfl))) (CS.retI (CX.pure (CE.bipush kB_m101 dX11_foretold_8 zhd)) dX11_foretold_10) zhd)
  (CS.seq 24 (CS.if1 (T := 21) (F := 24) (CD.pure (CC.not (CC.if_ne_T (T := 24) (F := 21) (CE.callS (by decide) (CA.int (CE.iload_n rfl dX11_foretold_11 zhd) (CA.int (CE.iconst kI_1 dX11_foretold_12 zhd) (CA.int (CE.bipush kB_100 dX11_foretold_13 zhd) CA.nil))) zi_130 cs_X11_94 (fun _ => rfl) dX11_foretold_15 zhd) dX11_foretold_18 rfl rfl))) (CS.retI (CX.pure (CE.bipush kB_m102 dX11_foretold_21 zhd)) dX11_foretold_23) zhd)
  (CS.retI (CX.pure (CE.callV (by decide) (CA.ref (CE.getR (CE.aload_n rfl dX11_foretold_24 zhd) fs_X11_61 dX11_foretold_25 zhd) (CA.int (CE.iload_n rfl dX11_foretold_28 zhd) (CA.int (CE.iload_n rfl dX11_foretold_29 zhd) CA.nil))) zi_76 cv_X11_289 (fun _ => rfl) dX11_foretold_30 zhd)) dX11_foretold_33)))
theorem dX11_look_0 : decode cX11_look 0 = .ok (.iload_n 1, 1) := by decide +kernel
theorem dX11_look_1 : decode cX11_look 1 = .ok (.iconst 1, 1) := by decide +kernel
theorem dX11_look_2 : decode cX11_look 2 = .ok (.sipush 999, 3) := by decide +kernel
theorem dX11_look_5 : decode cX11_look 5 = .ok (.invokestatic 94, 3) := by decide +kernel
theorem dX11_look_8 : decode cX11_look 8 = .ok (.ifCond .ne 6, 3) := by decide +kernel
theorem dX11_look_11 : decode cX11_look 11 = .ok (.bipush (-102), 2) := by decide +kernel
theorem dX11_look_13 : decode cX11_look 13 = .ok (.ireturn, 1) := by decide +kernel
theorem dX11_look_14 : decode cX11_look 14 = .ok (.aload_n 0, 1) := by decide +kernel
theorem dX11_look_15 : decode cX11_look 15 = .ok (.getfield 75, 3) := by decide +kernel
theorem dX11_look_18 : decode cX11_look 18 = .ok (.getfield 292, 3) := by decide +kernel
theorem dX11_look_21 : decode cX11_look 21 = .ok (.bipush 6, 2) := by decide +kernel
theorem dX11_look_23 : decode cX11_look 23 = .ok (.if_icmp .lt 6, 3) := by decide +kernel
theorem dX11_look_26 : decode cX11_look 26 = .ok (.bipush (-104), 2) := by decide +kernel
theorem dX11_look_28 : decode cX11_look 28 = .ok (.ireturn, 1) := by decide +kernel
theorem dX11_look_29 : decode cX11_look 29 = .ok (.aload_n 0, 1) := by decide +kernel
theorem dX11_look_30 : decode cX11_look 30 = .ok (.getfield 75, 3) := by decide +kernel
theorem dX11_look_33 : decode cX11_look 33 = .ok (.iload_n 1, 1) := by decide +kernel
theorem dX11_look_34 : decode cX11_look 34 = .ok (.invokevirtual 293, 3) := by decide +kernel
theorem dX11_look_37 : decode cX11_look 37 = .ok (.ireturn, 1) := by decide +kernel
theorem cd_120 (G : ZG) (d : Nat) (K : ZKt) (F : ZFt) (hT : zt5 G.2.2.2) : CS G RX11 cX11_look 2 d K (some .int) [] (fun _ => []) 0 (bd_120 G.2.2.2 K F) := by
  unfold bd_120
  exact (CS.seq 14 (CS.if1 (T := 11) (F := 14) (CD.pure (CC.not (CC.if_ne_T (T := 14) (F := 11) (CE.callS (by decide) (CA.int (CE.iload_n rfl dX11_look_0 zhd) (CA.int (CE.iconst kI_1 dX11_look_1 zhd) (CA.int (CE.sipush kS_999 dX11_look_2 zhd) CA.nil))) zi_130 cs_X11_94 (fun _ => rfl) dX11_look_5 zhd) dX11_look_8 rfl rfl))) (CS.retI (CX.pure (CE.bipush kB_m102 dX11_look_11 zhd)) dX11_look_13) zhd)
  (CS.seq 29 (CS.if1 (T := 26) (F := 29) (CD.pure (CC.icmp_ge_F (T := 26) (F := 29) (CE.getI (CE.getR (CE.aload_n rfl dX11_look_14 zhd) fs_X11_75 dX11_look_15 zhd) fs_X11_292 dX11_look_18 zhd) (CE.bipush kB_6 dX11_look_21 zhd) dX11_look_23 rfl rfl)) (CS.retI (CX.pure (CE.bipush kB_m104 dX11_look_26 zhd)) dX11_look_28) zhd)
  (CS.retI (CX.callV (by decide) (CA.ref (CE.getR (CE.aload_n rfl dX11_look_29 zhd) fs_X11_75 dX11_look_30 zhd) (CA.int (CE.iload_n rfl dX11_look_33 zhd) CA.nil)) zi_26 cv_X11_293 (fun _ => rfl) dX11_look_34 zhd) dX11_look_37)))
theorem dX11_finds_0 : decode cX11_finds 0 = .ok (.iload_n 1, 1) := by decide +kernel
theorem dX11_finds_1 : decode cX11_finds 1 = .ok (.aload_n 0, 1) := by decide +kernel
theorem dX11_finds_2 : decode cX11_finds 2 = .ok (.getfield 75, 3) := by decide +kernel
theorem dX11_finds_5 : decode cX11_finds 5 = .ok (.getfield 292, 3) := by decide +kernel
theorem dX11_finds_8 : decode cX11_finds 8 = .ok (.invokestatic 86, 3) := by decide +kernel
theorem dX11_finds_11 : decode cX11_finds 11 = .ok (.ifCond .eq 11, 3) := by decide +kernel
theorem dX11_finds_14 : decode cX11_finds 14 = .ok (.iload_n 2, 1) := by decide +kernel
theorem dX11_finds_15 : decode cX11_finds 15 = .ok (.iconst 4, 1) := by decide +kernel
theorem dX11_finds_16 : decode cX11_finds 16 = .ok (.invokestatic 86, 3) := by decide +kernel
theorem dX11_finds_19 : decode cX11_finds 19 = .ok (.ifCond .ne 6, 3) := by decide +kernel
theorem dX11_finds_22 : decode cX11_finds 22 = .ok (.bipush (-101), 2) := by decide +kernel
theorem dX11_finds_24 : decode cX11_finds 24 = .ok (.ireturn, 1) := by decide +kernel
theorem dX11_finds_25 : decode cX11_finds 25 = .ok (.iload_n 3, 1) := by decide +kernel
theorem dX11_finds_26 : decode cX11_finds 26 = .ok (.iconst 0, 1) := by decide +kernel
theorem dX11_finds_27 : decode cX11_finds 27 = .ok (.bipush 99, 2) := by decide +kernel
theorem dX11_finds_29 : decode cX11_finds 29 = .ok (.invokestatic 94, 3) := by decide +kernel
theorem dX11_finds_32 : decode cX11_finds 32 = .ok (.ifCond .ne 6, 3) := by decide +kernel
theorem dX11_finds_35 : decode cX11_finds 35 = .ok (.bipush (-102), 2) := by decide +kernel
theorem dX11_finds_37 : decode cX11_finds 37 = .ok (.ireturn, 1) := by decide +kernel
theorem dX11_finds_38 : decode cX11_finds 38 = .ok (.aload_n 0, 1) := by decide +kernel
theorem dX11_finds_39 : decode cX11_finds 39 = .ok (.getfield 75, 3) := by decide +kernel
theorem dX11_finds_42 : decode cX11_finds 42 = .ok (.getfield 295, 3) := by decide +kernel
theorem dX11_finds_45 : decode cX11_finds 45 = .ok (.iload_n 1, 1) := by decide +kernel
theorem dX11_finds_46 : decode cX11_finds 46 = .ok (.aaload, 1) := by decide +kernel
theorem dX11_finds_47 : decode cX11_finds 47 = .ok (.iload_n 2, 1) := by decide +kernel
theorem dX11_finds_48 : decode cX11_finds 48 = .ok (.iload_n 3, 1) := by decide +kernel
theorem dX11_finds_49 : decode cX11_finds 49 = .ok (.invokestatic 106, 3) := by decide +kernel
theorem dX11_finds_52 : decode cX11_finds 52 = .ok (.ireturn, 1) := by decide +kernel
theorem cd_121 (G : ZG) (d : Nat) (K : ZKt) (F : ZFt) (hT : zt5 G.2.2.2) : CS G RX11 cX11_finds 4 d K (some .int) [] (fun _ => []) 0 (bd_121 G.2.2.2 K F) := by
  unfold bd_121
  exact (CS.seq 25 (CS.if1 (T := 22) (F := 25) (CD.pure (CC.or (CC.not (CC.if_ne_F (T := 14) (F := 22) (CE.callS (by decide) (CA.int (CE.iload_n rfl dX11_finds_0 zhd) (CA.int (CE.getI (CE.getR (CE.aload_n rfl dX11_finds_1 zhd) fs_X11_75 dX11_finds_2 zhd) fs_X11_292 dX11_finds_5 zhd) CA.nil)) zi_129 cs_X11_86 (fun _ => rfl) dX11_finds_8 zhd) dX11_finds_11 rfl rfl)) (CC.not (CC.if_ne_T (T := 25) (F := 22) (CE.callS (by decide) (CA.int (CE.iload_n rfl dX11_finds_14 zhd) (CA.int (CE.iconst kI_4 dX11_finds_15 zhd) CA.nil)) zi_129 cs_X11_86 (fun _ => rfl) dX11_finds_16 zhd) dX11_finds_19 rfl rfl)))) (CS.retI (CX.pure (CE.bipush kB_m101 dX11_finds_22 zhd)) dX11_finds_24) zhd)
  (CS.seq 38 (CS.if1 (T := 35) (F := 38) (CD.pure (CC.not (CC.if_ne_T (T := 38) (F := 35) (CE.callS (by decide) (CA.int (CE.iload_n rfl dX11_finds_25 zhd) (CA.int (CE.iconst kI_0 dX11_finds_26 zhd) (CA.int (CE.bipush kB_99 dX11_finds_27 zhd) CA.nil))) zi_130 cs_X11_94 (fun _ => rfl) dX11_finds_29 zhd) dX11_finds_32 rfl rfl))) (CS.retI (CX.pure (CE.bipush kB_m102 dX11_finds_35 zhd)) dX11_finds_37) zhd)
  (CS.retI (CX.callS (by decide) (CA.ref (CE.aldR (CE.getR (CE.getR (CE.aload_n rfl dX11_finds_38 zhd) fs_X11_75 dX11_finds_39 zhd) fs_X11_295 dX11_finds_42 zhd) (CE.iload_n rfl dX11_finds_45 zhd) dX11_finds_46 zhd) (CA.int (CE.iload_n rfl dX11_finds_47 zhd) (CA.int (CE.iload_n rfl dX11_finds_48 zhd) CA.nil))) zi_131 cs_X11_106 (fun _ => rfl) dX11_finds_49 zhd) dX11_finds_52)))
theorem dX11_asked_0 : decode cX11_asked 0 = .ok (.iload_n 1, 1) := by decide +kernel
theorem dX11_asked_1 : decode cX11_asked 1 = .ok (.iconst 4, 1) := by decide +kernel
theorem dX11_asked_2 : decode cX11_asked 2 = .ok (.invokestatic 86, 3) := by decide +kernel
theorem dX11_asked_5 : decode cX11_asked 5 = .ok (.ifCond .ne 6, 3) := by decide +kernel
theorem dX11_asked_8 : decode cX11_asked 8 = .ok (.bipush (-101), 2) := by decide +kernel
theorem dX11_asked_10 : decode cX11_asked 10 = .ok (.ireturn, 1) := by decide +kernel
theorem dX11_asked_11 : decode cX11_asked 11 = .ok (.iload_n 2, 1) := by decide +kernel
theorem dX11_asked_12 : decode cX11_asked 12 = .ok (.iconst 0, 1) := by decide +kernel
theorem dX11_asked_13 : decode cX11_asked 13 = .ok (.bipush 99, 2) := by decide +kernel
theorem dX11_asked_15 : decode cX11_asked 15 = .ok (.invokestatic 94, 3) := by decide +kernel
theorem dX11_asked_18 : decode cX11_asked 18 = .ok (.ifCond .ne 6, 3) := by decide +kernel
theorem dX11_asked_21 : decode cX11_asked 21 = .ok (.bipush (-102), 2) := by decide +kernel
theorem dX11_asked_23 : decode cX11_asked 23 = .ok (.ireturn, 1) := by decide +kernel
theorem dX11_asked_24 : decode cX11_asked 24 = .ok (.aload_n 0, 1) := by decide +kernel
theorem dX11_asked_25 : decode cX11_asked 25 = .ok (.getfield 75, 3) := by decide +kernel
theorem dX11_asked_28 : decode cX11_asked 28 = .ok (.getfield 298, 3) := by decide +kernel
theorem dX11_asked_31 : decode cX11_asked 31 = .ok (.iload_n 1, 1) := by decide +kernel
theorem dX11_asked_32 : decode cX11_asked 32 = .ok (.iload_n 2, 1) := by decide +kernel
theorem dX11_asked_33 : decode cX11_asked 33 = .ok (.invokestatic 106, 3) := by decide +kernel
theorem dX11_asked_36 : decode cX11_asked 36 = .ok (.ireturn, 1) := by decide +kernel
theorem cd_122 (G : ZG) (d : Nat) (K : ZKt) (F : ZFt) (hT : zt5 G.2.2.2) : CS G RX11 cX11_asked 3 d K (some .int) [] (fun _ => []) 0 (bd_122 G.2.2.2 K F) := by
  unfold bd_122
  exact (CS.seq 11 (CS.if1 (T := 8) (F := 11) (CD.pure (CC.not (CC.if_ne_T (T := 11) (F := 8) (CE.callS (by decide) (CA.int (CE.iload_n rfl dX11_asked_0 zhd) (CA.int (CE.iconst kI_4 dX11_asked_1 zhd) CA.nil)) zi_129 cs_X11_86 (fun _ => rfl) dX11_asked_2 zhd) dX11_asked_5 rfl rfl))) (CS.retI (CX.pure (CE.bipush kB_m101 dX11_asked_8 zhd)) dX11_asked_10) zhd)
  (CS.seq 24 (CS.if1 (T := 21) (F := 24) (CD.pure (CC.not (CC.if_ne_T (T := 24) (F := 21) (CE.callS (by decide) (CA.int (CE.iload_n rfl dX11_asked_11 zhd) (CA.int (CE.iconst kI_0 dX11_asked_12 zhd) (CA.int (CE.bipush kB_99 dX11_asked_13 zhd) CA.nil))) zi_130 cs_X11_94 (fun _ => rfl) dX11_asked_15 zhd) dX11_asked_18 rfl rfl))) (CS.retI (CX.pure (CE.bipush kB_m102 dX11_asked_21 zhd)) dX11_asked_23) zhd)
  (CS.retI (CX.callS (by decide) (CA.ref (CE.getR (CE.getR (CE.aload_n rfl dX11_asked_24 zhd) fs_X11_75 dX11_asked_25 zhd) fs_X11_298 dX11_asked_28 zhd) (CA.int (CE.iload_n rfl dX11_asked_31 zhd) (CA.int (CE.iload_n rfl dX11_asked_32 zhd) CA.nil))) zi_131 cs_X11_106 (fun _ => rfl) dX11_asked_33 zhd) dX11_asked_36)))
theorem dX11_enough_0 : decode cX11_enough 0 = .ok (.iload_n 1, 1) := by decide +kernel
theorem dX11_enough_1 : decode cX11_enough 1 = .ok (.iconst 2, 1) := by decide +kernel
theorem dX11_enough_2 : decode cX11_enough 2 = .ok (.invokestatic 86, 3) := by decide +kernel
theorem dX11_enough_5 : decode cX11_enough 5 = .ok (.ifCond .ne 6, 3) := by decide +kernel
theorem dX11_enough_8 : decode cX11_enough 8 = .ok (.bipush (-102), 2) := by decide +kernel
theorem dX11_enough_10 : decode cX11_enough 10 = .ok (.ireturn, 1) := by decide +kernel
theorem dX11_enough_11 : decode cX11_enough 11 = .ok (.aload_n 0, 1) := by decide +kernel
theorem dX11_enough_12 : decode cX11_enough 12 = .ok (.getfield 75, 3) := by decide +kernel
theorem dX11_enough_15 : decode cX11_enough 15 = .ok (.invokevirtual 301, 3) := by decide +kernel
theorem dX11_enough_18 : decode cX11_enough 18 = .ok (.istore_n 2, 1) := by decide +kernel
theorem dX11_enough_19 : decode cX11_enough 19 = .ok (.iload_n 1, 1) := by decide +kernel
theorem dX11_enough_20 : decode cX11_enough 20 = .ok (.ifCond .eq 8, 3) := by decide +kernel
theorem dX11_enough_23 : decode cX11_enough 23 = .ok (.iload_n 2, 1) := by decide +kernel
theorem dX11_enough_24 : decode cX11_enough 24 = .ok (.iconst (-1), 1) := by decide +kernel
theorem dX11_enough_25 : decode cX11_enough 25 = .ok (.if_icmp .ne 7, 3) := by decide +kernel
theorem dX11_enough_28 : decode cX11_enough 28 = .ok (.iload_n 2, 1) := by decide +kernel
theorem dX11_enough_29 : decode cX11_enough 29 = .ok (.goto 11, 3) := by decide +kernel
theorem dX11_enough_32 : decode cX11_enough 32 = .ok (.aload_n 0, 1) := by decide +kernel
theorem dX11_enough_33 : decode cX11_enough 33 = .ok (.getfield 75, 3) := by decide +kernel
theorem dX11_enough_36 : decode cX11_enough 36 = .ok (.iload_n 2, 1) := by decide +kernel
theorem dX11_enough_37 : decode cX11_enough 37 = .ok (.invokevirtual 304, 3) := by decide +kernel
theorem dX11_enough_40 : decode cX11_enough 40 = .ok (.ireturn, 1) := by decide +kernel
theorem cd_123 (G : ZG) (d : Nat) (K : ZKt) (F : ZFt) (hT : zt5 G.2.2.2) : CS G RX11 cX11_enough 3 d K (some .int) [] (fun _ => []) 0 (bd_123 G.2.2.2 K F) := by
  unfold bd_123
  exact (CS.seq 11 (CS.if1 (T := 8) (F := 11) (CD.pure (CC.not (CC.if_ne_T (T := 11) (F := 8) (CE.callS (by decide) (CA.int (CE.iload_n rfl dX11_enough_0 zhd) (CA.int (CE.iconst kI_2 dX11_enough_1 zhd) CA.nil)) zi_129 cs_X11_86 (fun _ => rfl) dX11_enough_2 zhd) dX11_enough_5 rfl rfl))) (CS.retI (CX.pure (CE.bipush kB_m102 dX11_enough_8 zhd)) dX11_enough_10) zhd)
  (CS.seq 19 (CS.decI_n (CX.pure (CE.callV (by decide) (CA.ref (CE.getR (CE.aload_n rfl dX11_enough_11 zhd) fs_X11_75 dX11_enough_12 zhd) CA.nil) zi_27 cv_X11_301 (fun _ => rfl) dX11_enough_15 zhd)) rfl (by decide) dX11_enough_18 zhd)
  (CS.retI (CX.pure (CE.tern (T := 28) (F := 32) (p1 := 29) (q := 40) (CC.or (CC.if_eq_T (T := 28) (F := 23) (CE.iload_n rfl dX11_enough_19 zhd) dX11_enough_20 rfl rfl) (CC.icmp_eq_F (T := 28) (F := 32) (CE.iload_n rfl dX11_enough_23 zhd) (CE.iconst kI_m1 dX11_enough_24 zhd) dX11_enough_25 rfl rfl)) (CE.iload_n rfl dX11_enough_28 zhd) zex2 dX11_enough_29 rfl zhd (CE.callV (by decide) (CA.ref (CE.getR (CE.aload_n rfl dX11_enough_32 zhd) fs_X11_75 dX11_enough_33 zhd) (CA.int (CE.iload_n rfl dX11_enough_36 zhd) CA.nil)) zi_29 cv_X11_304 (fun _ => rfl) dX11_enough_37 zhd))) dX11_enough_40)))
theorem dX11_made_0 : decode cX11_made 0 = .ok (.iload_n 1, 1) := by decide +kernel
theorem dX11_made_1 : decode cX11_made 1 = .ok (.iconst 0, 1) := by decide +kernel
theorem dX11_made_2 : decode cX11_made 2 = .ok (.bipush 99, 2) := by decide +kernel
theorem dX11_made_4 : decode cX11_made 4 = .ok (.invokestatic 94, 3) := by decide +kernel
theorem dX11_made_7 : decode cX11_made 7 = .ok (.ifCond .ne 6, 3) := by decide +kernel
theorem dX11_made_10 : decode cX11_made 10 = .ok (.bipush (-102), 2) := by decide +kernel
theorem dX11_made_12 : decode cX11_made 12 = .ok (.ireturn, 1) := by decide +kernel
theorem dX11_made_13 : decode cX11_made 13 = .ok (.aload_n 0, 1) := by decide +kernel
theorem dX11_made_14 : decode cX11_made 14 = .ok (.getfield 82, 3) := by decide +kernel
theorem dX11_made_17 : decode cX11_made 17 = .ok (.getfield 307, 3) := by decide +kernel
theorem dX11_made_20 : decode cX11_made 20 = .ok (.bipush 12, 2) := by decide +kernel
theorem dX11_made_22 : decode cX11_made 22 = .ok (.if_icmp .lt 6, 3) := by decide +kernel
theorem dX11_made_25 : decode cX11_made 25 = .ok (.bipush (-104), 2) := by decide +kernel
theorem dX11_made_27 : decode cX11_made 27 = .ok (.ireturn, 1) := by decide +kernel
theorem dX11_made_28 : decode cX11_made 28 = .ok (.aload_n 0, 1) := by decide +kernel
theorem dX11_made_29 : decode cX11_made 29 = .ok (.getfield 82, 3) := by decide +kernel
theorem dX11_made_32 : decode cX11_made 32 = .ok (.iload_n 1, 1) := by decide +kernel
theorem dX11_made_33 : decode cX11_made 33 = .ok (.invokevirtual 308, 3) := by decide +kernel
theorem dX11_made_36 : decode cX11_made 36 = .ok (.ireturn, 1) := by decide +kernel
theorem cd_124 (G : ZG) (d : Nat) (K : ZKt) (F : ZFt) (hT : zt5 G.2.2.2) : CS G RX11 cX11_made 2 d K (some .int) [] (fun _ => []) 0 (bd_124 G.2.2.2 K F) := by
  unfold bd_124
  exact (CS.seq 13 (CS.if1 (T := 10) (F := 13) (CD.pure (CC.not (CC.if_ne_T (T := 13) (F := 10) (CE.callS (by decide) (CA.int (CE.iload_n rfl dX11_made_0 zhd) (CA.int (CE.iconst kI_0 dX11_made_1 zhd) (CA.int (CE.bipush kB_99 dX11_made_2 zhd) CA.nil))) zi_130 cs_X11_94 (fun _ => rfl) dX11_made_4 zhd) dX11_made_7 rfl rfl))) (CS.retI (CX.pure (CE.bipush kB_m102 dX11_made_10 zhd)) dX11_made_12) zhd)
  (CS.seq 28 (CS.if1 (T := 25) (F := 28) (CD.pure (CC.icmp_ge_F (T := 25) (F := 28) (CE.getI (CE.getR (CE.aload_n rfl dX11_made_13 zhd) fs_X11_82 dX11_made_14 zhd) fs_X11_307 dX11_made_17 zhd) (CE.bipush kB_12 dX11_made_20 zhd) dX11_made_22 rfl rfl)) (CS.retI (CX.pure (CE.bipush kB_m104 dX11_made_25 zhd)) dX11_made_27) zhd)
  (CS.retI (CX.callV (by decide) (CA.ref (CE.getR (CE.aload_n rfl dX11_made_28 zhd) fs_X11_82 dX11_made_29 zhd) (CA.int (CE.iload_n rfl dX11_made_32 zhd) CA.nil)) zi_71 cv_X11_308 (fun _ => rfl) dX11_made_33 zhd) dX11_made_36)))
theorem dX11_unmade_0 : decode cX11_unmade 0 = .ok (.aload_n 0, 1) := by decide +kernel
theorem dX11_unmade_1 : decode cX11_unmade 1 = .ok (.getfield 82, 3) := by decide +kernel
theorem dX11_unmade_4 : decode cX11_unmade 4 = .ok (.getfield 307, 3) := by decide +kernel
theorem dX11_unmade_7 : decode cX11_unmade 7 = .ok (.istore_n 1, 1) := by decide +kernel
theorem dX11_unmade_8 : decode cX11_unmade 8 = .ok (.aload_n 0, 1) := by decide +kernel
theorem dX11_unmade_9 : decode cX11_unmade 9 = .ok (.getfield 82, 3) := by decide +kernel
theorem dX11_unmade_12 : decode cX11_unmade 12 = .ok (.iconst 0, 1) := by decide +kernel
theorem dX11_unmade_13 : decode cX11_unmade 13 = .ok (.putfield 307, 3) := by decide +kernel
theorem dX11_unmade_16 : decode cX11_unmade 16 = .ok (.iload_n 1, 1) := by decide +kernel
theorem dX11_unmade_17 : decode cX11_unmade 17 = .ok (.ireturn, 1) := by decide +kernel
theorem cd_125 (G : ZG) (d : Nat) (K : ZKt) (F : ZFt) (hT : zt5 G.2.2.2) : CS G RX11 cX11_unmade 2 d K (some .int) [] (fun _ => []) 0 (bd_125 G.2.2.2 K F) := by
  unfold bd_125
  exact (CS.seq 8 (CS.decI_n (CX.pure (CE.getI (CE.getR (CE.aload_n rfl dX11_unmade_0 zhd) fs_X11_82 dX11_unmade_1 zhd) fs_X11_307 dX11_unmade_4 zhd)) rfl (by decide) dX11_unmade_7 zhd)
  (CS.seq 16 (CS.put (CE.getR (CE.aload_n rfl dX11_unmade_8 zhd) fs_X11_82 dX11_unmade_9 zhd) (CX.pure (CE.iconst kI_0 dX11_unmade_12 zhd)) fp_X11_307 rfl dX11_unmade_13 zhd)
  (CS.retI (CX.pure (CE.iload_n rfl dX11_unmade_16 zhd)) dX11_unmade_17)))
theorem dX11_drift_0 : decode cX11_drift 0 = .ok (.iload_n 1, 1) := by decide +kernel
theorem dX11_drift_1 : decode cX11_drift 1 = .ok (.iconst 1, 1) := by decide +kernel
theorem dX11_drift_2 : decode cX11_drift 2 = .ok (.aload_n 0, 1) := by decide +kernel
theorem dX11_drift_3 : decode cX11_drift 3 = .ok (.getfield 82, 3) := by decide +kernel
theorem dX11_drift_6 : decode cX11_drift 6 = .ok (.getfield 307, 3) := by decide +kernel
theorem dX11_drift_9 : decode cX11_drift 9 = .ok (.iconst 1, 1) := by decide +kernel
theorem dX11_drift_10 : decode cX11_drift 10 = .ok (.isub, 1) := by decide +kernel
theorem dX11_drift_11 : decode cX11_drift 11 = .ok (.invokestatic 94, 3) := by decide +kernel
theorem dX11_drift_14 : decode cX11_drift 14 = .ok (.ifCond .eq 11, 3) := by decide +kernel
theorem dX11_drift_17 : decode cX11_drift 17 = .ok (.iload_n 2, 1) := by decide +kernel
theorem dX11_drift_18 : decode cX11_drift 18 = .ok (.iconst 2, 1) := by decide +kernel
theorem dX11_drift_19 : decode cX11_drift 19 = .ok (.invokestatic 86, 3) := by decide +kernel
theorem dX11_drift_22 : decode cX11_drift 22 = .ok (.ifCond .ne 6, 3) := by decide +kernel
theorem dX11_drift_25 : decode cX11_drift 25 = .ok (.bipush (-102), 2) := by decide +kernel
theorem dX11_drift_27 : decode cX11_drift 27 = .ok (.ireturn, 1) := by decide +kernel
theorem dX11_drift_28 : decode cX11_drift 28 = .ok (.aload_n 0, 1) := by decide +kernel
theorem dX11_drift_29 : decode cX11_drift 29 = .ok (.getfield 82, 3) := by decide +kernel
theorem dX11_drift_32 : decode cX11_drift 32 = .ok (.iload_n 1, 1) := by decide +kernel
theorem dX11_drift_33 : decode cX11_drift 33 = .ok (.iload_n 2, 1) := by decide +kernel
theorem dX11_drift_34 : decode cX11_drift 34 = .ok (.ifCond .ne 7, 3) := by decide +kernel
theorem dX11_drift_37 : decode cX11_drift 37 = .ok (.iconst 1, 1) := by decide +kernel
theorem dX11_drift_38 : decode cX11_drift 38 = .ok (.goto 4, 3) := by decide +kernel
theorem dX11_drift_41 : decode cX11_drift 41 = .ok (.iconst 0, 1) := by decide +kernel
theorem dX11_drift_42 : decode cX11_drift 42 = .ok (.invokevirtual 309, 3) := by decide +kernel
theorem dX11_drift_45 : decode cX11_drift 45 = .ok (.ireturn, 1) := by decide +kernel
theorem cd_126 (G : ZG) (d : Nat) (K : ZKt) (F : ZFt) (hT : zt5 G.2.2.2) : CS G RX11 cX11_drift 3 d K (some .int) [] (fun _ => []) 0 (bd_126 G.2.2.2 K F) := by
  unfold bd_126
  exact (CS.seq 28 (CS.if1 (T := 25) (F := 28) (CD.pure (CC.or (CC.not (CC.if_ne_F (T := 17) (F := 25) (CE.callS (by decide) (CA.int (CE.iload_n rfl dX11_drift_0 zhd) (CA.int (CE.iconst kI_1 dX11_drift_1 zhd) (CA.int (CE.isub (CE.getI (CE.getR (CE.aload_n rfl dX11_drift_2 zhd) fs_X11_82 dX11_drift_3 zhd) fs_X11_307 dX11_drift_6 zhd) (CE.iconst kI_1 dX11_drift_9 zhd) dX11_drift_10 zhd) CA.nil))) zi_130 cs_X11_94 (fun _ => rfl) dX11_drift_11 zhd) dX11_drift_14 rfl rfl)) (CC.not (CC.if_ne_T (T := 28) (F := 25) (CE.callS (by decide) (CA.int (CE.iload_n rfl dX11_drift_17 zhd) (CA.int (CE.iconst kI_2 dX11_drift_18 zhd) CA.nil)) zi_129 cs_X11_86 (fun _ => rfl) dX11_drift_19 zhd) dX11_drift_22 rfl rfl)))) (CS.retI (CX.pure (CE.bipush kB_m102 dX11_drift_25 zhd)) dX11_drift_27) zhd)
  (CS.retI (CX.pure (CE.callV (by decide) (CA.ref (CE.getR (CE.aload_n rfl dX11_drift_28 zhd) fs_X11_82 dX11_drift_29 zhd) (CA.int (CE.iload_n rfl dX11_drift_32 zhd) (CA.int (CE.bool (T := 37) (F := 41) (q := 42) (CC.if_eq_F (T := 37) (F := 41) (CE.iload_n rfl dX11_drift_33 zhd) dX11_drift_34 rfl rfl) dX11_drift_37 rfl dX11_drift_38 rfl zhd dX11_drift_41 zhd) CA.nil))) zi_72 cv_X11_309 (fun _ => rfl) dX11_drift_42 zhd)) dX11_drift_45))
theorem dX11_count_0 : decode cX11_count 0 = .ok (.iload_n 1, 1) := by decide +kernel
theorem dX11_count_1 : decode cX11_count 1 = .ok (.tableswitch 142 0 9 #[55, 63, 71, 79, 87, 95, 103, 111, 119, 134], 55) := by decide +kernel
theorem dX11_count_56 : decode cX11_count 56 = .ok (.aload_n 0, 1) := by decide +kernel
theorem dX11_count_57 : decode cX11_count 57 = .ok (.getfield 26, 3) := by decide +kernel
theorem dX11_count_60 : decode cX11_count 60 = .ok (.getfield 161, 3) := by decide +kernel
theorem dX11_count_63 : decode cX11_count 63 = .ok (.ireturn, 1) := by decide +kernel
theorem dX11_count_64 : decode cX11_count 64 = .ok (.aload_n 0, 1) := by decide +kernel
theorem dX11_count_65 : decode cX11_count 65 = .ok (.getfield 40, 3) := by decide +kernel
theorem dX11_count_68 : decode cX11_count 68 = .ok (.getfield 189, 3) := by decide +kernel
theorem dX11_count_71 : decode cX11_count 71 = .ok (.ireturn, 1) := by decide +kernel
theorem dX11_count_72 : decode cX11_count 72 = .ok (.aload_n 0, 1) := by decide +kernel
theorem dX11_count_73 : decode cX11_count 73 = .ok (.getfield 68, 3) := by decide +kernel
theorem dX11_count_76 : decode cX11_count 76 = .ok (.getfield 269, 3) := by decide +kernel
theorem dX11_count_79 : decode cX11_count 79 = .ok (.ireturn, 1) := by decide +kernel
theorem dX11_count_80 : decode cX11_count 80 = .ok (.aload_n 0, 1) := by decide +kernel
theorem dX11_count_81 : decode cX11_count 81 = .ok (.getfield 75, 3) := by decide +kernel
theorem dX11_count_84 : decode cX11_count 84 = .ok (.getfield 292, 3) := by decide +kernel
theorem dX11_count_87 : decode cX11_count 87 = .ok (.ireturn, 1) := by decide +kernel
theorem dX11_count_88 : decode cX11_count 88 = .ok (.aload_n 0, 1) := by decide +kernel
theorem dX11_count_89 : decode cX11_count 89 = .ok (.getfield 82, 3) := by decide +kernel
theorem dX11_count_92 : decode cX11_count 92 = .ok (.getfield 307, 3) := by decide +kernel
theorem dX11_count_95 : decode cX11_count 95 = .ok (.ireturn, 1) := by decide +kernel
theorem dX11_count_96 : decode cX11_count 96 = .ok (.aload_n 0, 1) := by decide +kernel
theorem dX11_count_97 : decode cX11_count 97 = .ok (.getfield 19, 3) := by decide +kernel
theorem dX11_count_100 : decode cX11_count 100 = .ok (.getfield 135, 3) := by decide +kernel
theorem dX11_count_103 : decode cX11_count 103 = .ok (.ireturn, 1) := by decide +kernel
theorem dX11_count_104 : decode cX11_count 104 = .ok (.aload_n 0, 1) := by decide +kernel
theorem dX11_count_105 : decode cX11_count 105 = .ok (.getfield 33, 3) := by decide +kernel
theorem dX11_count_108 : decode cX11_count 108 = .ok (.getfield 178, 3) := by decide +kernel
theorem dX11_count_111 : decode cX11_count 111 = .ok (.ireturn, 1) := by decide +kernel
theorem dX11_count_112 : decode cX11_count 112 = .ok (.aload_n 0, 1) := by decide +kernel
theorem dX11_count_113 : decode cX11_count 113 = .ok (.getfield 68, 3) := by decide +kernel
theorem dX11_count_116 : decode cX11_count 116 = .ok (.getfield 271, 3) := by decide +kernel
theorem dX11_count_119 : decode cX11_count 119 = .ok (.ireturn, 1) := by decide +kernel
theorem dX11_count_120 : decode cX11_count 120 = .ok (.aload_n 0, 1) := by decide +kernel
theorem dX11_count_121 : decode cX11_count 121 = .ok (.getfield 54, 3) := by decide +kernel
theorem dX11_count_124 : decode cX11_count 124 = .ok (.aload_n 0, 1) := by decide +kernel
theorem dX11_count_125 : decode cX11_count 125 = .ok (.getfield 40, 3) := by decide +kernel
theorem dX11_count_128 : decode cX11_count 128 = .ok (.getfield 189, 3) := by decide +kernel
theorem dX11_count_131 : decode cX11_count 131 = .ok (.invokevirtual 313, 3) := by decide +kernel
theorem dX11_count_134 : decode cX11_count 134 = .ok (.ireturn, 1) := by decide +kernel
theorem dX11_count_135 : decode cX11_count 135 = .ok (.aload_n 0, 1) := by decide +kernel
theorem dX11_count_136 : decode cX11_count 136 = .ok (.getfield 40, 3) := by decide +kernel
theorem dX11_count_139 : decode cX11_count 139 = .ok (.getfield 316, 3) := by decide +kernel
theorem dX11_count_142 : decode cX11_count 142 = .ok (.ireturn, 1) := by decide +kernel
theorem dX11_count_143 : decode cX11_count 143 = .ok (.bipush (-102), 2) := by decide +kernel
theorem dX11_count_145 : decode cX11_count 145 = .ok (.ireturn, 1) := by decide +kernel
theorem cd_127 (G : ZG) (d : Nat) (K : ZKt) (F : ZFt) (hT : zt5 G.2.2.2) : CS G RX11 cX11_count 2 d K (some .int) [] (fun _ => []) 0 (bd_127 G.2.2.2 K F) := by
  unfold bd_127
  exact (CS.sw (qd := 143) (CX.pure (CE.iload_n rfl dX11_count_0 zhd)) dX11_count_1 rfl ⟨by decide, ⟨_, 56, rfl, rfl, (CS.retI (CX.pure (CE.getI (CE.getR (CE.aload_n rfl dX11_count_56 zhd) fs_X11_26 dX11_count_57 zhd) fs_X11_161 dX11_count_60 zhd)) dX11_count_63)⟩, ⟨by decide, ⟨_, 64, rfl, rfl, (CS.retI (CX.pure (CE.getI (CE.getR (CE.aload_n rfl dX11_count_64 zhd) fs_X11_40 dX11_count_65 zhd) fs_X11_189 dX11_count_68 zhd)) dX11_count_71)⟩, ⟨by decide, ⟨_, 72, rfl, rfl, (CS.retI (CX.pure (CE.getI (CE.getR (CE.aload_n rfl dX11_count_72 zhd) fs_X11_68 dX11_count_73 zhd) fs_X11_269 dX11_count_76 zhd)) dX11_count_79)⟩, ⟨by decide, ⟨_, 80, rfl, rfl, (CS.retI (CX.pure (CE.getI (CE.getR (CE.aload_n rfl dX11_count_80 zhd) fs_X11_75 dX11_count_81 zhd) fs_X11_292 dX11_count_84 zhd)) dX11_count_87)⟩, ⟨by decide, ⟨_, 88, rfl, rfl, (CS.retI (CX.pure (CE.getI (CE.getR (CE.aload_n rfl dX11_count_88 zhd) fs_X11_82 dX11_count_89 zhd) fs_X11_307 dX11_count_92 zhd)) dX11_count_95)⟩, ⟨by decide, ⟨_, 96, rfl, rfl, (CS.retI (CX.pure (CE.getI (CE.getR (CE.aload_n rfl dX11_count_96 zhd) fs_X11_19 dX11_count_97 zhd) fs_X11_135 dX11_count_100 zhd)) dX11_count_103)⟩, ⟨by decide, ⟨_, 104, rfl, rfl, (CS.retI (CX.pure (CE.getI (CE.getR (CE.aload_n rfl dX11_count_104 zhd) fs_X11_33 dX11_count_105 zhd) fs_X11_178 dX11_count_108 zhd)) dX11_count_111)⟩, ⟨by decide, ⟨_, 112, rfl, rfl, (CS.retI (CX.pure (CE.getI (CE.getR (CE.aload_n rfl dX11_count_112 zhd) fs_X11_68 dX11_count_113 zhd) fs_X11_271 dX11_count_116 zhd)) dX11_count_119)⟩, ⟨by decide, ⟨_, 120, rfl, rfl, (CS.retI (CX.pure (CE.callV (by decide) (CA.ref (CE.getR (CE.aload_n rfl dX11_count_120 zhd) fs_X11_54 dX11_count_121 zhd) (CA.int (CE.getI (CE.getR (CE.aload_n rfl dX11_count_124 zhd) fs_X11_40 dX11_count_125 zhd) fs_X11_189 dX11_count_128 zhd) CA.nil)) zi_34 cv_X11_313 (fun _ => rfl) dX11_count_131 zhd)) dX11_count_134)⟩, ⟨by decide, ⟨_, 135, rfl, rfl, (CS.retI (CX.pure (CE.getI (CE.getR (CE.aload_n rfl dX11_count_135 zhd) fs_X11_40 dX11_count_136 zhd) fs_X11_316 dX11_count_139 zhd)) dX11_count_142)⟩, trivial⟩⟩⟩⟩⟩⟩⟩⟩⟩⟩ rfl (CS.retI (CX.pure (CE.bipush kB_m102 dX11_count_143 zhd)) dX11_count_145))
theorem dX11_digest_0 : decode cX11_digest 0 = .ok (.aload_n 0, 1) := by decide +kernel
theorem dX11_digest_1 : decode cX11_digest 1 = .ok (.getfield 10, 3) := by decide +kernel
theorem dX11_digest_4 : decode cX11_digest 4 = .ok (.ldc2_w 319, 3) := by decide +kernel
theorem dX11_digest_7 : decode cX11_digest 7 = .ok (.invokevirtual 321, 3) := by decide +kernel
theorem dX11_digest_10 : decode cX11_digest 10 = .ok (.lstore_n 1, 1) := by decide +kernel
theorem dX11_digest_11 : decode cX11_digest 11 = .ok (.aload_n 0, 1) := by decide +kernel
theorem dX11_digest_12 : decode cX11_digest 12 = .ok (.getfield 26, 3) := by decide +kernel
theorem dX11_digest_15 : decode cX11_digest 15 = .ok (.lload_n 1, 1) := by decide +kernel
theorem dX11_digest_16 : decode cX11_digest 16 = .ok (.aload_n 0, 1) := by decide +kernel
theorem dX11_digest_17 : decode cX11_digest 17 = .ok (.getfield 10, 3) := by decide +kernel
theorem dX11_digest_20 : decode cX11_digest 20 = .ok (.invokevirtual 325, 3) := by decide +kernel
theorem dX11_digest_23 : decode cX11_digest 23 = .ok (.lstore_n 1, 1) := by decide +kernel
theorem dX11_digest_24 : decode cX11_digest 24 = .ok (.aload_n 0, 1) := by decide +kernel
theorem dX11_digest_25 : decode cX11_digest 25 = .ok (.getfield 40, 3) := by decide +kernel
theorem dX11_digest_28 : decode cX11_digest 28 = .ok (.lload_n 1, 1) := by decide +kernel
theorem dX11_digest_29 : decode cX11_digest 29 = .ok (.invokevirtual 328, 3) := by decide +kernel
theorem dX11_digest_32 : decode cX11_digest 32 = .ok (.lstore_n 1, 1) := by decide +kernel
theorem dX11_digest_33 : decode cX11_digest 33 = .ok (.aload_n 0, 1) := by decide +kernel
theorem dX11_digest_34 : decode cX11_digest 34 = .ok (.getfield 54, 3) := by decide +kernel
theorem dX11_digest_37 : decode cX11_digest 37 = .ok (.lload_n 1, 1) := by decide +kernel
theorem dX11_digest_38 : decode cX11_digest 38 = .ok (.invokevirtual 329, 3) := by decide +kernel
theorem dX11_digest_41 : decode cX11_digest 41 = .ok (.lstore_n 1, 1) := by decide +kernel
theorem dX11_digest_42 : decode cX11_digest 42 = .ok (.aload_n 0, 1) := by decide +kernel
theorem dX11_digest_43 : decode cX11_digest 43 = .ok (.getfield 61, 3) := by decide +kernel
theorem dX11_digest_46 : decode cX11_digest 46 = .ok (.lload_n 1, 1) := by decide +kernel
theorem dX11_digest_47 : decode cX11_digest 47 = .ok (.invokevirtual 330, 3) := by decide +kernel
theorem dX11_digest_50 : decode cX11_digest 50 = .ok (.lstore_n 1, 1) := by decide +kernel
theorem dX11_digest_51 : decode cX11_digest 51 = .ok (.aload_n 0, 1) := by decide +kernel
theorem dX11_digest_52 : decode cX11_digest 52 = .ok (.getfield 68, 3) := by decide +kernel
theorem dX11_digest_55 : decode cX11_digest 55 = .ok (.lload_n 1, 1) := by decide +kernel
theorem dX11_digest_56 : decode cX11_digest 56 = .ok (.invokevirtual 331, 3) := by decide +kernel
theorem dX11_digest_59 : decode cX11_digest 59 = .ok (.lstore_n 1, 1) := by decide +kernel
theorem dX11_digest_60 : decode cX11_digest 60 = .ok (.aload_n 0, 1) := by decide +kernel
theorem dX11_digest_61 : decode cX11_digest 61 = .ok (.getfield 75, 3) := by decide +kernel
theorem dX11_digest_64 : decode cX11_digest 64 = .ok (.lload_n 1, 1) := by decide +kernel
theorem dX11_digest_65 : decode cX11_digest 65 = .ok (.invokevirtual 332, 3) := by decide +kernel
theorem dX11_digest_68 : decode cX11_digest 68 = .ok (.lstore_n 1, 1) := by decide +kernel
theorem dX11_digest_69 : decode cX11_digest 69 = .ok (.aload_n 0, 1) := by decide +kernel
theorem dX11_digest_70 : decode cX11_digest 70 = .ok (.getfield 82, 3) := by decide +kernel
theorem dX11_digest_73 : decode cX11_digest 73 = .ok (.lload_n 1, 1) := by decide +kernel
theorem dX11_digest_74 : decode cX11_digest 74 = .ok (.invokevirtual 333, 3) := by decide +kernel
theorem dX11_digest_77 : decode cX11_digest 77 = .ok (.lstore_n 1, 1) := by decide +kernel
theorem dX11_digest_78 : decode cX11_digest 78 = .ok (.aload_n 0, 1) := by decide +kernel
theorem dX11_digest_79 : decode cX11_digest 79 = .ok (.getfield 19, 3) := by decide +kernel
theorem dX11_digest_82 : decode cX11_digest 82 = .ok (.lload_n 1, 1) := by decide +kernel
theorem dX11_digest_83 : decode cX11_digest 83 = .ok (.invokevirtual 334, 3) := by decide +kernel
theorem dX11_digest_86 : decode cX11_digest 86 = .ok (.lstore_n 1, 1) := by decide +kernel
theorem dX11_digest_87 : decode cX11_digest 87 = .ok (.iconst 0, 1) := by decide +kernel
theorem dX11_digest_88 : decode cX11_digest 88 = .ok (.istore_n 3, 1) := by decide +kernel
theorem dX11_digest_89 : decode cX11_digest 89 = .ok (.iload_n 3, 1) := by decide +kernel
theorem dX11_digest_90 : decode cX11_digest 90 = .ok (.bipush 9, 2) := by decide +kernel
theorem dX11_digest_92 : decode cX11_digest 92 = .ok (.if_icmp .gt 20, 3) := by decide +kernel
theorem dX11_digest_95 : decode cX11_digest 95 = .ok (.lload_n 1, 1) := by decide +kernel
theorem dX11_digest_96 : decode cX11_digest 96 = .ok (.aload_n 0, 1) := by decide +kernel
theorem dX11_digest_97 : decode cX11_digest 97 = .ok (.iload_n 3, 1) := by decide +kernel
theorem dX11_digest_98 : decode cX11_digest 98 = .ok (.invokevirtual 335, 3) := by decide +kernel
theorem dX11_digest_101 : decode cX11_digest 101 = .ok (.i2l, 1) := by decide +kernel
theorem dX11_digest_102 : decode cX11_digest 102 = .ok (.invokestatic 338, 3) := by decide +kernel
theorem dX11_digest_105 : decode cX11_digest 105 = .ok (.lstore_n 1, 1) := by decide +kernel
theorem dX11_digest_106 : decode cX11_digest 106 = .ok (.iinc 3 1, 3) := by decide +kernel
theorem dX11_digest_109 : decode cX11_digest 109 = .ok (.goto (-20), 3) := by decide +kernel
theorem dX11_digest_112 : decode cX11_digest 112 = .ok (.lload_n 1, 1) := by decide +kernel
theorem dX11_digest_113 : decode cX11_digest 113 = .ok (.lreturn, 1) := by decide +kernel
theorem cd_128 (G : ZG) (d : Nat) (K : ZKt) (F : ZFt) (hT : zt5 G.2.2.2) : CS G RX11 cX11_digest 4 d K (some .long) [] (fun _ => []) 0 (bd_128 G.2.2.2 K F) := by
  unfold bd_128
  exact (CS.seq 11 (CS.decL_n (CX.pure (CE.callV (by decide) (CA.ref (CE.getR (CE.aload_n rfl dX11_digest_0 zhd) fs_X11_10 dX11_digest_1 zhd) (CA.long (CE.ldc2 lc_X11_319 dX11_digest_4 zhd) CA.nil)) zi_20 cv_X11_321 (fun _ => rfl) dX11_digest_7 zhd)) rfl (by decide) dX11_digest_10 zhd)
  (CS.seq 24 (CS.setL_n (CX.pure (CE.callV (by decide) (CA.ref (CE.getR (CE.aload_n rfl dX11_digest_11 zhd) fs_X11_26 dX11_digest_12 zhd) (CA.long (CE.lload_n rfl dX11_digest_15 zhd) (CA.ref (CE.getR (CE.aload_n rfl dX11_digest_16 zhd) fs_X11_10 dX11_digest_17 zhd) CA.nil))) zi_10 cv_X11_325 (fun _ => rfl) dX11_digest_20 zhd)) rfl (by decide) dX11_digest_23 zhd)
  (CS.seq 33 (CS.setL_n (CX.pure (CE.callV (by decide) (CA.ref (CE.getR (CE.aload_n rfl dX11_digest_24 zhd) fs_X11_40 dX11_digest_25 zhd) (CA.long (CE.lload_n rfl dX11_digest_28 zhd) CA.nil)) zi_88 cv_X11_328 (fun _ => rfl) dX11_digest_29 zhd)) rfl (by decide) dX11_digest_32 zhd)
  (CS.seq 42 (CS.setL_n (CX.pure (CE.callV (by decide) (CA.ref (CE.getR (CE.aload_n rfl dX11_digest_33 zhd) fs_X11_54 dX11_digest_34 zhd) (CA.long (CE.lload_n rfl dX11_digest_37 zhd) CA.nil)) zi_45 cv_X11_329 (fun _ => rfl) dX11_digest_38 zhd)) rfl (by decide) dX11_digest_41 zhd)
  (CS.seq 51 (CS.setL_n (CX.pure (CE.callV (by decide) (CA.ref (CE.getR (CE.aload_n rfl dX11_digest_42 zhd) fs_X11_61 dX11_digest_43 zhd) (CA.long (CE.lload_n rfl dX11_digest_46 zhd) CA.nil)) zi_78 cv_X11_330 (fun _ => rfl) dX11_digest_47 zhd)) rfl (by decide) dX11_digest_50 zhd)
  (CS.seq 60 (CS.setL_n (CX.pure (CE.callV (by decide) (CA.ref (CE.getR (CE.aload_n rfl dX11_digest_51 zhd) fs_X11_68 dX11_digest_52 zhd) (CA.long (CE.lload_n rfl dX11_digest_55 zhd) CA.nil)) zi_53 cv_X11_331 (fun _ => rfl) dX11_digest_56 zhd)) rfl (by decide) dX11_digest_59 zhd)
  (CS.seq 69 (CS.setL_n (CX.pure (CE.callV (by decide) (CA.ref (CE.getR (CE.aload_n rfl dX11_digest_60 zhd) fs_X11_75 dX11_digest_61 zhd) (CA.long (CE.lload_n rfl dX11_digest_64 zhd) CA.nil)) zi_32 cv_X11_332 (fun _ => rfl) dX11_digest_65 zhd)) rfl (by decide) dX11_digest_68 zhd)
  (CS.seq 78 (CS.setL_n (CX.pure (CE.callV (by decide) (CA.ref (CE.getR (CE.aload_n rfl dX11_digest_69 zhd) fs_X11_82 dX11_digest_70 zhd) (CA.long (CE.lload_n rfl dX11_digest_73 zhd) CA.nil)) zi_74 cv_X11_333 (fun _ => rfl) dX11_digest_74 zhd)) rfl (by decide) dX11_digest_77 zhd)
  (CS.seq 87 (CS.setL_n (CX.pure (CE.callV (by decide) (CA.ref (CE.getR (CE.aload_n rfl dX11_digest_78 zhd) fs_X11_19 dX11_digest_79 zhd) (CA.long (CE.lload_n rfl dX11_digest_82 zhd) CA.nil)) zi_61 cv_X11_334 (fun _ => rfl) dX11_digest_83 zhd)) rfl (by decide) dX11_digest_86 zhd)
  (CS.seq 112 (CS.scope (CS.seq 89 (CS.decI_n (CX.pure (CE.iconst kI_0 dX11_digest_87 zhd)) rfl (by decide) dX11_digest_88 zhd)
  (CS.whl (T := 95) (F := 112) (p1 := 109) (CD.pure (CC.icmp_le_F (T := 95) (F := 112) (CE.iload_n rfl dX11_digest_89 zhd) (CE.bipush kB_9 dX11_digest_90 zhd) dX11_digest_92 rfl rfl))
  (CS.seq 106 (CS.setL_n (CX.pure (CE.callS (by decide) (CA.long (CE.lload_n rfl dX11_digest_95 zhd) (CA.long (CE.i2l (CE.callV (by decide) (CA.ref (CE.aload_n rfl dX11_digest_96 zhd) (CA.int (CE.iload_n rfl dX11_digest_97 zhd) CA.nil)) zi_127 cv_X11_335 (fun _ => rfl) dX11_digest_98 zhd) dX11_digest_101 zhd) CA.nil)) zi_132 cs_X11_338 (fun _ => rfl) dX11_digest_102 zhd)) rfl (by decide) dX11_digest_105 zhd)
  (CS.inc kI_1 (by decide) dX11_digest_106 zhd)) dX11_digest_109 rfl zhd)))
  (CS.retL (CX.pure (CE.lload_n rfl dX11_digest_112 zhd)) dX11_digest_113)))))))))))
theorem dX11_named_0 : decode cX11_named 0 = .ok (.iload_n 0, 1) := by decide +kernel
theorem dX11_named_1 : decode cX11_named 1 = .ok (.ifCond .lt 12, 3) := by decide +kernel
theorem dX11_named_4 : decode cX11_named 4 = .ok (.iload_n 0, 1) := by decide +kernel
theorem dX11_named_5 : decode cX11_named 5 = .ok (.iload_n 1, 1) := by decide +kernel
theorem dX11_named_6 : decode cX11_named 6 = .ok (.if_icmp .ge 7, 3) := by decide +kernel
theorem dX11_named_9 : decode cX11_named 9 = .ok (.iconst 1, 1) := by decide +kernel
theorem dX11_named_10 : decode cX11_named 10 = .ok (.goto 4, 3) := by decide +kernel
theorem dX11_named_13 : decode cX11_named 13 = .ok (.iconst 0, 1) := by decide +kernel
theorem dX11_named_14 : decode cX11_named 14 = .ok (.ireturn, 1) := by decide +kernel
theorem cd_129 (G : ZG) (d : Nat) (K : ZKt) (F : ZFt) (hT : zt5 G.2.2.2) : CS G RX11 cX11_named 2 d K (some .boolean) [] (fun _ => []) 0 (bd_129 G.2.2.2 K F) := by
  unfold bd_129
  exact (CS.retZ (CX.pure (CE.bool (T := 9) (F := 13) (q := 14) (CC.and (CC.if_ge_F (T := 4) (F := 13) (CE.iload_n rfl dX11_named_0 zhd) dX11_named_1 rfl rfl) (CC.icmp_lt_F (T := 9) (F := 13) (CE.iload_n rfl dX11_named_4 zhd) (CE.iload_n rfl dX11_named_5 zhd) dX11_named_6 rfl rfl)) dX11_named_9 rfl dX11_named_10 rfl zhd dX11_named_13 zhd)) dX11_named_14)
theorem dX11_within_0 : decode cX11_within 0 = .ok (.iload_n 0, 1) := by decide +kernel
theorem dX11_within_1 : decode cX11_within 1 = .ok (.iload_n 1, 1) := by decide +kernel
theorem dX11_within_2 : decode cX11_within 2 = .ok (.if_icmp .lt 12, 3) := by decide +kernel
theorem dX11_within_5 : decode cX11_within 5 = .ok (.iload_n 0, 1) := by decide +kernel
theorem dX11_within_6 : decode cX11_within 6 = .ok (.iload_n 2, 1) := by decide +kernel
theorem dX11_within_7 : decode cX11_within 7 = .ok (.if_icmp .gt 7, 3) := by decide +kernel
theorem dX11_within_10 : decode cX11_within 10 = .ok (.iconst 1, 1) := by decide +kernel
theorem dX11_within_11 : decode cX11_within 11 = .ok (.goto 4, 3) := by decide +kernel
theorem dX11_within_14 : decode cX11_within 14 = .ok (.iconst 0, 1) := by decide +kernel
theorem dX11_within_15 : decode cX11_within 15 = .ok (.ireturn, 1) := by decide +kernel
theorem cd_130 (G : ZG) (d : Nat) (K : ZKt) (F : ZFt) (hT : zt5 G.2.2.2) : CS G RX11 cX11_within 3 d K (some .boolean) [] (fun _ => []) 0 (bd_130 G.2.2.2 K F) := by
  unfold bd_130
  exact (CS.retZ (CX.pure (CE.bool (T := 10) (F := 14) (q := 15) (CC.and (CC.icmp_ge_F (T := 5) (F := 14) (CE.iload_n rfl dX11_within_0 zhd) (CE.iload_n rfl dX11_within_1 zhd) dX11_within_2 rfl rfl) (CC.icmp_le_F (T := 10) (F := 14) (CE.iload_n rfl dX11_within_5 zhd) (CE.iload_n rfl dX11_within_6 zhd) dX11_within_7 rfl rfl)) dX11_within_10 rfl dX11_within_11 rfl zhd dX11_within_14 zhd)) dX11_within_15)
theorem dX11_exchange_0 : decode cX11_exchange 0 = .ok (.iload_n 1, 1) := by decide +kernel
theorem dX11_exchange_1 : decode cX11_exchange 1 = .ok (.aload_n 0, 1) := by decide +kernel
theorem dX11_exchange_2 : decode cX11_exchange 2 = .ok (.arraylength, 1) := by decide +kernel
theorem dX11_exchange_3 : decode cX11_exchange 3 = .ok (.invokestatic 86, 3) := by decide +kernel
theorem dX11_exchange_6 : decode cX11_exchange 6 = .ok (.ifCond .ne 5, 3) := by decide +kernel
theorem dX11_exchange_9 : decode cX11_exchange 9 = .ok (.iconst (-1), 1) := by decide +kernel
theorem dX11_exchange_10 : decode cX11_exchange 10 = .ok (.ireturn, 1) := by decide +kernel
theorem dX11_exchange_11 : decode cX11_exchange 11 = .ok (.aload_n 0, 1) := by decide +kernel
theorem dX11_exchange_12 : decode cX11_exchange 12 = .ok (.iload_n 1, 1) := by decide +kernel
theorem dX11_exchange_13 : decode cX11_exchange 13 = .ok (.iaload, 1) := by decide +kernel
theorem dX11_exchange_14 : decode cX11_exchange 14 = .ok (.istore_n 3, 1) := by decide +kernel
theorem dX11_exchange_15 : decode cX11_exchange 15 = .ok (.aload_n 0, 1) := by decide +kernel
theorem dX11_exchange_16 : decode cX11_exchange 16 = .ok (.iload_n 1, 1) := by decide +kernel
theorem dX11_exchange_17 : decode cX11_exchange 17 = .ok (.iload_n 2, 1) := by decide +kernel
theorem dX11_exchange_18 : decode cX11_exchange 18 = .ok (.iastore, 1) := by decide +kernel
theorem dX11_exchange_19 : decode cX11_exchange 19 = .ok (.iload_n 3, 1) := by decide +kernel
theorem dX11_exchange_20 : decode cX11_exchange 20 = .ok (.ireturn, 1) := by decide +kernel
theorem cd_131 (G : ZG) (d : Nat) (K : ZKt) (F : ZFt) (hT : zt5 G.2.2.2) : CS G RX11 cX11_exchange 4 d K (some .int) [] (fun _ => []) 0 (bd_131 G.2.2.2 K F) := by
  unfold bd_131
  exact (CS.seq 11 (CS.if1 (T := 9) (F := 11) (CD.pure (CC.not (CC.if_ne_T (T := 11) (F := 9) (CE.callS (by decide) (CA.int (CE.iload_n rfl dX11_exchange_0 zhd) (CA.int (CE.alen (CE.aload_n rfl dX11_exchange_1 zhd) dX11_exchange_2 zhd hT) CA.nil)) zi_129 cs_X11_86 (fun _ => rfl) dX11_exchange_3 zhd) dX11_exchange_6 rfl rfl))) (CS.retI (CX.pure (CE.iconst kI_m1 dX11_exchange_9 zhd)) dX11_exchange_10) zhd)
  (CS.seq 15 (CS.decI_n (CX.pure (CE.aldI (CE.aload_n rfl dX11_exchange_11 zhd) (CE.iload_n rfl dX11_exchange_12 zhd) (Or.inl ⟨rfl, dX11_exchange_13⟩) zhd)) rfl (by decide) dX11_exchange_14 zhd)
  (CS.seq 19 (CS.st (CE.aload_n rfl dX11_exchange_15 zhd) (CX.pure (CE.iload_n rfl dX11_exchange_16 zhd)) (CX.pure (CE.iload_n rfl dX11_exchange_17 zhd)) (Or.inl ⟨rfl, dX11_exchange_18⟩) zhd)
  (CS.retI (CX.pure (CE.iload_n rfl dX11_exchange_19 zhd)) dX11_exchange_20))))
theorem dX11_folded_0 : decode cX11_folded 0 = .ok (.ldc2_w 342, 3) := by decide +kernel
theorem dX11_folded_3 : decode cX11_folded 3 = .ok (.lload_n 0, 1) := by decide +kernel
theorem dX11_folded_4 : decode cX11_folded 4 = .ok (.lmul, 1) := by decide +kernel
theorem dX11_folded_5 : decode cX11_folded 5 = .ok (.lload_n 2, 1) := by decide +kernel
theorem dX11_folded_6 : decode cX11_folded 6 = .ok (.ladd, 1) := by decide +kernel
theorem dX11_folded_7 : decode cX11_folded 7 = .ok (.lreturn, 1) := by decide +kernel
theorem cd_132 (G : ZG) (d : Nat) (K : ZKt) (F : ZFt) (hT : zt5 G.2.2.2) : CS G RX11 cX11_folded 4 d K (some .long) [] (fun _ => []) 0 (bd_132 G.2.2.2 K F) := by
  unfold bd_132
  exact (CS.retL (CX.pure (CE.ladd (CE.lmul (CE.ldc2 lc_X11_342 dX11_folded_0 zhd) (CE.lload_n rfl dX11_folded_3 zhd) dX11_folded_4 zhd) (CE.lload_n rfl dX11_folded_5 zhd) dX11_folded_6 zhd)) dX11_folded_7)
theorem dX11_foldedRow_0 : decode cX11_foldedRow 0 = .ok (.lload_n 0, 1) := by decide +kernel
theorem dX11_foldedRow_1 : decode cX11_foldedRow 1 = .ok (.lstore 4, 2) := by decide +kernel
theorem dX11_foldedRow_3 : decode cX11_foldedRow 3 = .ok (.iconst 0, 1) := by decide +kernel
theorem dX11_foldedRow_4 : decode cX11_foldedRow 4 = .ok (.istore 6, 2) := by decide +kernel
theorem dX11_foldedRow_6 : decode cX11_foldedRow 6 = .ok (.iload 6, 2) := by decide +kernel
theorem dX11_foldedRow_8 : decode cX11_foldedRow 8 = .ok (.iload_n 3, 1) := by decide +kernel
theorem dX11_foldedRow_9 : decode cX11_foldedRow 9 = .ok (.if_icmp .ge 28, 3) := by decide +kernel
theorem dX11_foldedRow_12 : decode cX11_foldedRow 12 = .ok (.iload 6, 2) := by decide +kernel
theorem dX11_foldedRow_14 : decode cX11_foldedRow 14 = .ok (.aload_n 2, 1) := by decide +kernel
theorem dX11_foldedRow_15 : decode cX11_foldedRow 15 = .ok (.arraylength, 1) := by decide +kernel
theorem dX11_foldedRow_16 : decode cX11_foldedRow 16 = .ok (.if_icmp .ge 21, 3) := by decide +kernel
theorem dX11_foldedRow_19 : decode cX11_foldedRow 19 = .ok (.lload 4, 2) := by decide +kernel
theorem dX11_foldedRow_21 : decode cX11_foldedRow 21 = .ok (.aload_n 2, 1) := by decide +kernel
theorem dX11_foldedRow_22 : decode cX11_foldedRow 22 = .ok (.iload 6, 2) := by decide +kernel
theorem dX11_foldedRow_24 : decode cX11_foldedRow 24 = .ok (.iaload, 1) := by decide +kernel
theorem dX11_foldedRow_25 : decode cX11_foldedRow 25 = .ok (.i2l, 1) := by decide +kernel
theorem dX11_foldedRow_26 : decode cX11_foldedRow 26 = .ok (.invokestatic 338, 3) := by decide +kernel
theorem dX11_foldedRow_29 : decode cX11_foldedRow 29 = .ok (.lstore 4, 2) := by decide +kernel
theorem dX11_foldedRow_31 : decode cX11_foldedRow 31 = .ok (.iinc 6 1, 3) := by decide +kernel
theorem dX11_foldedRow_34 : decode cX11_foldedRow 34 = .ok (.goto (-28), 3) := by decide +kernel
theorem dX11_foldedRow_37 : decode cX11_foldedRow 37 = .ok (.lload 4, 2) := by decide +kernel
theorem dX11_foldedRow_39 : decode cX11_foldedRow 39 = .ok (.lreturn, 1) := by decide +kernel
theorem cd_133 (G : ZG) (d : Nat) (K : ZKt) (F : ZFt) (hT : zt5 G.2.2.2) : CS G RX11 cX11_foldedRow 7 d K (some .long) [] (fun _ => []) 0 (bd_133 G.2.2.2 K F) := by
  unfold bd_133
  exact (CS.seq 3 (CS.decL (CX.pure (CE.lload_n rfl dX11_foldedRow_0 zhd)) (by decide) dX11_foldedRow_1 zhd)
  (CS.seq 37 (CS.scope (CS.seq 6 (CS.decI (CX.pure (CE.iconst kI_0 dX11_foldedRow_3 zhd)) (by decide) dX11_foldedRow_4 zhd)
  (CS.whl (T := 19) (F := 37) (p1 := 34) (CD.pure (CC.and (CC.icmp_lt_F (T := 12) (F := 37) (CE.iload dX11_foldedRow_6 zhd) (CE.iload_n rfl dX11_foldedRow_8 zhd) dX11_foldedRow_9 rfl rfl) (CC.icmp_lt_F (T := 19) (F := 37) (CE.iload dX11_foldedRow_12 zhd) (CE.alen (CE.aload_n rfl dX11_foldedRow_14 zhd) dX11_foldedRow_15 zhd hT) dX11_foldedRow_16 rfl rfl)))
  (CS.seq 31 (CS.setL (CX.pure (CE.callS (by decide) (CA.long (CE.lload dX11_foldedRow_19 zhd) (CA.long (CE.i2l (CE.aldI (CE.aload_n rfl dX11_foldedRow_21 zhd) (CE.iload dX11_foldedRow_22 zhd) (Or.inl ⟨rfl, dX11_foldedRow_24⟩) zhd) dX11_foldedRow_25 zhd) CA.nil)) zi_132 cs_X11_338 (fun _ => rfl) dX11_foldedRow_26 zhd)) (by decide) dX11_foldedRow_29 zhd)
  (CS.inc kI_1 (by decide) dX11_foldedRow_31 zhd)) dX11_foldedRow_34 rfl zhd)))
  (CS.retL (CX.pure (CE.lload dX11_foldedRow_37 zhd)) dX11_foldedRow_39)))
