/-! code of the bodies 175 to 201 -/
theorem dX12_placeOf_0 : decode cX12_placeOf 0 = .ok (.iconst 0, 1) := by decide +kernel
theorem dX12_placeOf_1 : decode cX12_placeOf 1 = .ok (.istore_n 2, 1) := by decide +kernel
theorem dX12_placeOf_2 : decode cX12_placeOf 2 = .ok (.iload_n 2, 1) := by decide +kernel
theorem dX12_placeOf_3 : decode cX12_placeOf 3 = .ok (.bipush 48, 2) := by decide +kernel
theorem dX12_placeOf_5 : decode cX12_placeOf 5 = .ok (.if_icmp .ge 21, 3) := by decide +kernel
theorem dX12_placeOf_8 : decode cX12_placeOf 8 = .ok (.aload_n 0, 1) := by decide +kernel
theorem dX12_placeOf_9 : decode cX12_placeOf 9 = .ok (.getfield 62, 3) := by decide +kernel
theorem dX12_placeOf_12 : decode cX12_placeOf 12 = .ok (.iload_n 2, 1) := by decide +kernel
theorem dX12_placeOf_13 : decode cX12_placeOf 13 = .ok (.iaload, 1) := by decide +kernel
theorem dX12_placeOf_14 : decode cX12_placeOf 14 = .ok (.iload_n 1, 1) := by decide +kernel
theorem dX12_placeOf_15 : decode cX12_placeOf 15 = .ok (.if_icmp .ne 5, 3) := by decide +kernel
theorem dX12_placeOf_18 : decode cX12_placeOf 18 = .ok (.iload_n 2, 1) := by decide +kernel
theorem dX12_placeOf_19 : decode cX12_placeOf 19 = .ok (.ireturn, 1) := by decide +kernel
theorem dX12_placeOf_20 : decode cX12_placeOf 20 = .ok (.iinc 2 1, 3) := by decide +kernel
theorem dX12_placeOf_23 : decode cX12_placeOf 23 = .ok (.goto (-21), 3) := by decide +kernel
theorem dX12_placeOf_26 : decode cX12_placeOf 26 = .ok (.iconst (-1), 1) := by decide +kernel
theorem dX12_placeOf_27 : decode cX12_placeOf 27 = .ok (.ireturn, 1) := by decide +kernel
theorem cd_175 (G : ZG) (d : Nat) (K : ZKt) (F : ZFt) (hT : zt5 G.2.2.2) : CS G RX12 cX12_placeOf 3 d K (some .int) [] (fun _ => []) 0 (bd_175 G.2.2.2 K F) := by
  unfold bd_175
  exact (CS.seq 26 (CS.scope (CS.seq 2 (CS.decI_n (CX.pure (CE.iconst kI_0 dX12_placeOf_0 zhd)) rfl (by decide) dX12_placeOf_1 zhd)
  (CS.whl (T := 8) (F := 26) (p1 := 23) (CD.pure (CC.icmp_lt_F (T := 8) (F := 26) (CE.iload_n rfl dX12_placeOf_2 zhd) (CE.bipush kB_48 dX12_placeOf_3 zhd) dX12_placeOf_5 rfl rfl))
  (CS.seq 20 (CS.if1 (T := 18) (F := 20) (CD.pure (CC.icmp_eq_F (T := 18) (F := 20) (CE.aldI (CE.getR (CE.aload_n rfl dX12_placeOf_8 zhd) fs_X12_62 dX12_placeOf_9 zhd) (CE.iload_n rfl dX12_placeOf_12 zhd) (Or.inl ⟨rfl, dX12_placeOf_13⟩) zhd) (CE.iload_n rfl dX12_placeOf_14 zhd) dX12_placeOf_15 rfl rfl)) (CS.retI (CX.pure (CE.iload_n rfl dX12_placeOf_18 zhd)) dX12_placeOf_19) zhd)
  (CS.inc kI_1 (by decide) dX12_placeOf_20 zhd)) dX12_placeOf_23 rfl zhd)))
  (CS.retI (CX.pure (CE.iconst kI_m1 dX12_placeOf_26 zhd)) dX12_placeOf_27))
theorem dX12_put_0 : decode cX12_put 0 = .ok (.iload_n 1, 1) := by decide +kernel
theorem dX12_put_1 : decode cX12_put 1 = .ok (.invokestatic 245, 3) := by decide +kernel
theorem dX12_put_4 : decode cX12_put 4 = .ok (.ifCond .eq 11, 3) := by decide +kernel
theorem dX12_put_7 : decode cX12_put 7 = .ok (.aload_n 0, 1) := by decide +kernel
theorem dX12_put_8 : decode cX12_put 8 = .ok (.iload_n 2, 1) := by decide +kernel
theorem dX12_put_9 : decode cX12_put 9 = .ok (.invokevirtual 215, 3) := by decide +kernel
theorem dX12_put_12 : decode cX12_put 12 = .ok (.ifCond .ne 6, 3) := by decide +kernel
theorem dX12_put_15 : decode cX12_put 15 = .ok (.bipush (-101), 2) := by decide +kernel
theorem dX12_put_17 : decode cX12_put 17 = .ok (.ireturn, 1) := by decide +kernel
theorem dX12_put_18 : decode cX12_put 18 = .ok (.aload_n 0, 1) := by decide +kernel
theorem dX12_put_19 : decode cX12_put 19 = .ok (.iload_n 2, 1) := by decide +kernel
theorem dX12_put_20 : decode cX12_put 20 = .ok (.invokevirtual 248, 3) := by decide +kernel
theorem dX12_put_23 : decode cX12_put 23 = .ok (.istore_n 3, 1) := by decide +kernel
theorem dX12_put_24 : decode cX12_put 24 = .ok (.iload_n 3, 1) := by decide +kernel
theorem dX12_put_25 : decode cX12_put 25 = .ok (.iconst (-1), 1) := by decide +kernel
theorem dX12_put_26 : decode cX12_put 26 = .ok (.if_icmp .eq 10, 3) := by decide +kernel
theorem dX12_put_29 : decode cX12_put 29 = .ok (.aload_n 0, 1) := by decide +kernel
theorem dX12_put_30 : decode cX12_put 30 = .ok (.getfield 62, 3) := by decide +kernel
theorem dX12_put_33 : decode cX12_put 33 = .ok (.iload_n 3, 1) := by decide +kernel
theorem dX12_put_34 : decode cX12_put 34 = .ok (.iconst (-1), 1) := by decide +kernel
theorem dX12_put_35 : decode cX12_put 35 = .ok (.iastore, 1) := by decide +kernel
theorem dX12_put_36 : decode cX12_put 36 = .ok (.aload_n 0, 1) := by decide +kernel
theorem dX12_put_37 : decode cX12_put 37 = .ok (.getfield 62, 3) := by decide +kernel
theorem dX12_put_40 : decode cX12_put 40 = .ok (.bipush 8, 2) := by decide +kernel
theorem dX12_put_42 : decode cX12_put 42 = .ok (.iload_n 1, 1) := by decide +kernel
theorem dX12_put_43 : decode cX12_put 43 = .ok (.imul, 1) := by decide +kernel
theorem dX12_put_44 : decode cX12_put 44 = .ok (.aload_n 0, 1) := by decide +kernel
theorem dX12_put_45 : decode cX12_put 45 = .ok (.getfield 47, 3) := by decide +kernel
theorem dX12_put_48 : decode cX12_put 48 = .ok (.iload_n 2, 1) := by decide +kernel
theorem dX12_put_49 : decode cX12_put 49 = .ok (.iaload, 1) := by decide +kernel
theorem dX12_put_50 : decode cX12_put 50 = .ok (.iadd, 1) := by decide +kernel
theorem dX12_put_51 : decode cX12_put 51 = .ok (.iaload, 1) := by decide +kernel
theorem dX12_put_52 : decode cX12_put 52 = .ok (.istore 4, 2) := by decide +kernel
theorem dX12_put_54 : decode cX12_put 54 = .ok (.aload_n 0, 1) := by decide +kernel
theorem dX12_put_55 : decode cX12_put 55 = .ok (.getfield 62, 3) := by decide +kernel
theorem dX12_put_58 : decode cX12_put 58 = .ok (.bipush 8, 2) := by decide +kernel
theorem dX12_put_60 : decode cX12_put 60 = .ok (.iload_n 1, 1) := by decide +kernel
theorem dX12_put_61 : decode cX12_put 61 = .ok (.imul, 1) := by decide +kernel
theorem dX12_put_62 : decode cX12_put 62 = .ok (.aload_n 0, 1) := by decide +kernel
theorem dX12_put_63 : decode cX12_put 63 = .ok (.getfield 47, 3) := by decide +kernel
theorem dX12_put_66 : decode cX12_put 66 = .ok (.iload_n 2, 1) := by decide +kernel
theorem dX12_put_67 : decode cX12_put 67 = .ok (.iaload, 1) := by decide +kernel
theorem dX12_put_68 : decode cX12_put 68 = .ok (.iadd, 1) := by decide +kernel
theorem dX12_put_69 : decode cX12_put 69 = .ok (.iload_n 2, 1) := by decide +kernel
theorem dX12_put_70 : decode cX12_put 70 = .ok (.iastore, 1) := by decide +kernel
theorem dX12_put_71 : decode cX12_put 71 = .ok (.iload 4, 2) := by decide +kernel
theorem dX12_put_73 : decode cX12_put 73 = .ok (.ireturn, 1) := by decide +kernel
theorem cd_176 (G : ZG) (d : Nat) (K : ZKt) (F : ZFt) (hT : zt5 G.2.2.2) : CS G RX12 cX12_put 5 d K (some .int) [] (fun _ => []) 0 (bd_176 G.2.2.2 K F) := by
  unfold bd_176
  exact (CS.seq 18 (CS.if1 (T := 15) (F := 18) (CD.pure (CC.or (CC.not (CC.if_ne_F (T := 7) (F := 15) (CE.callS (by decide) (CA.int (CE.iload_n rfl dX12_put_0 zhd) CA.nil) zi_174 cs_X12_245 (fun _ => rfl) dX12_put_1 zhd) dX12_put_4 rfl rfl)) (CC.not (CC.if_ne_T (T := 18) (F := 15) (CE.callV (by decide) (CA.ref (CE.aload_n rfl dX12_put_7 zhd) (CA.int (CE.iload_n rfl dX12_put_8 zhd) CA.nil)) zi_137 cv_X12_215 (fun _ => rfl) dX12_put_9 zhd) dX12_put_12 rfl rfl)))) (CS.retI (CX.pure (CE.bipush kB_m101 dX12_put_15 zhd)) dX12_put_17) zhd)
  (CS.seq 24 (CS.decI_n (CX.pure (CE.callV (by decide) (CA.ref (CE.aload_n rfl dX12_put_18 zhd) (CA.int (CE.iload_n rfl dX12_put_19 zhd) CA.nil)) zi_175 cv_X12_248 (fun _ => rfl) dX12_put_20 zhd)) rfl (by decide) dX12_put_23 zhd)
  (CS.seq 36 (CS.if1 (T := 29) (F := 36) (CD.pure (CC.icmp_ne_F (T := 29) (F := 36) (CE.iload_n rfl dX12_put_24 zhd) (CE.iconst kI_m1 dX12_put_25 zhd) dX12_put_26 rfl rfl)) (CS.st (CE.getR (CE.aload_n rfl dX12_put_29 zhd) fs_X12_62 dX12_put_30 zhd) (CX.pure (CE.iload_n rfl dX12_put_33 zhd)) (CX.pure (CE.iconst kI_m1 dX12_put_34 zhd)) (Or.inl ⟨rfl, dX12_put_35⟩) zhd) zhd)
  (CS.seq 54 (CS.decI (CX.pure (CE.aldI (CE.getR (CE.aload_n rfl dX12_put_36 zhd) fs_X12_62 dX12_put_37 zhd) (CE.iadd (CE.imul (CE.bipush kB_8 dX12_put_40 zhd) (CE.iload_n rfl dX12_put_42 zhd) dX12_put_43 zhd) (CE.aldI (CE.getR (CE.aload_n rfl dX12_put_44 zhd) fs_X12_47 dX12_put_45 zhd) (CE.iload_n rfl dX12_put_48 zhd) (Or.inl ⟨rfl, dX12_put_49⟩) zhd) dX12_put_50 zhd) (Or.inl ⟨rfl, dX12_put_51⟩) zhd)) (by decide) dX12_put_52 zhd)
  (CS.seq 71 (CS.st (CE.getR (CE.aload_n rfl dX12_put_54 zhd) fs_X12_62 dX12_put_55 zhd) (CX.pure (CE.iadd (CE.imul (CE.bipush kB_8 dX12_put_58 zhd) (CE.iload_n rfl dX12_put_60 zhd) dX12_put_61 zhd) (CE.aldI (CE.getR (CE.aload_n rfl dX12_put_62 zhd) fs_X12_47 dX12_put_63 zhd) (CE.iload_n rfl dX12_put_66 zhd) (Or.inl ⟨rfl, dX12_put_67⟩) zhd) dX12_put_68 zhd)) (CX.pure (CE.iload_n rfl dX12_put_69 zhd)) (Or.inl ⟨rfl, dX12_put_70⟩) zhd)
  (CS.retI (CX.pure (CE.iload dX12_put_71 zhd)) dX12_put_73))))))
theorem dX12_in_0 : decode cX12_in 0 = .ok (.iload_n 1, 1) := by decide +kernel
theorem dX12_in_1 : decode cX12_in 1 = .ok (.invokestatic 245, 3) := by decide +kernel
theorem dX12_in_4 : decode cX12_in 4 = .ok (.ifCond .eq 24, 3) := by decide +kernel
theorem dX12_in_7 : decode cX12_in 7 = .ok (.iload_n 2, 1) := by decide +kernel
theorem dX12_in_8 : decode cX12_in 8 = .ok (.invokestatic 150, 3) := by decide +kernel
theorem dX12_in_11 : decode cX12_in 11 = .ok (.ifCond .eq 17, 3) := by decide +kernel
theorem dX12_in_14 : decode cX12_in 14 = .ok (.aload_n 0, 1) := by decide +kernel
theorem dX12_in_15 : decode cX12_in 15 = .ok (.getfield 62, 3) := by decide +kernel
theorem dX12_in_18 : decode cX12_in 18 = .ok (.bipush 8, 2) := by decide +kernel
theorem dX12_in_20 : decode cX12_in 20 = .ok (.iload_n 1, 1) := by decide +kernel
theorem dX12_in_21 : decode cX12_in 21 = .ok (.imul, 1) := by decide +kernel
theorem dX12_in_22 : decode cX12_in 22 = .ok (.iload_n 2, 1) := by decide +kernel
theorem dX12_in_23 : decode cX12_in 23 = .ok (.iadd, 1) := by decide +kernel
theorem dX12_in_24 : decode cX12_in 24 = .ok (.iaload, 1) := by decide +kernel
theorem dX12_in_25 : decode cX12_in 25 = .ok (.goto 5, 3) := by decide +kernel
theorem dX12_in_28 : decode cX12_in 28 = .ok (.bipush (-101), 2) := by decide +kernel
theorem dX12_in_30 : decode cX12_in 30 = .ok (.ireturn, 1) := by decide +kernel
theorem cd_177 (G : ZG) (d : Nat) (K : ZKt) (F : ZFt) (hT : zt5 G.2.2.2) : CS G RX12 cX12_in 3 d K (some .int) [] (fun _ => []) 0 (bd_177 G.2.2.2 K F) := by
  unfold bd_177
  exact (CS.retI (CX.pure (CE.tern (T := 14) (F := 28) (p1 := 25) (q := 30) (CC.and (CC.if_ne_F (T := 7) (F := 28) (CE.callS (by decide) (CA.int (CE.iload_n rfl dX12_in_0 zhd) CA.nil) zi_174 cs_X12_245 (fun _ => rfl) dX12_in_1 zhd) dX12_in_4 rfl rfl) (CC.if_ne_F (T := 14) (F := 28) (CE.callS (by decide) (CA.int (CE.iload_n rfl dX12_in_7 zhd) CA.nil) zi_136 cs_X12_150 (fun _ => rfl) dX12_in_8 zhd) dX12_in_11 rfl rfl)) (CE.aldI (CE.getR (CE.aload_n rfl dX12_in_14 zhd) fs_X12_62 dX12_in_15 zhd) (CE.iadd (CE.imul (CE.bipush kB_8 dX12_in_18 zhd) (CE.iload_n rfl dX12_in_20 zhd) dX12_in_21 zhd) (CE.iload_n rfl dX12_in_22 zhd) dX12_in_23 zhd) (Or.inl ⟨rfl, dX12_in_24⟩) zhd) zex2 dX12_in_25 rfl zhd (CE.bipush kB_m101 dX12_in_28 zhd))) dX12_in_30)
theorem dX12_isRight_0 : decode cX12_isRight 0 = .ok (.iconst 0, 1) := by decide +kernel
theorem dX12_isRight_1 : decode cX12_isRight 1 = .ok (.istore_n 3, 1) := by decide +kernel
theorem dX12_isRight_2 : decode cX12_isRight 2 = .ok (.iconst 0, 1) := by decide +kernel
theorem dX12_isRight_3 : decode cX12_isRight 3 = .ok (.istore 4, 2) := by decide +kernel
theorem dX12_isRight_5 : decode cX12_isRight 5 = .ok (.iconst 0, 1) := by decide +kernel
theorem dX12_isRight_6 : decode cX12_isRight 6 = .ok (.istore 5, 2) := by decide +kernel
theorem dX12_isRight_8 : decode cX12_isRight 8 = .ok (.iload 5, 2) := by decide +kernel
theorem dX12_isRight_10 : decode cX12_isRight 10 = .ok (.aload_n 0, 1) := by decide +kernel
theorem dX12_isRight_11 : decode cX12_isRight 11 = .ok (.getfield 32, 3) := by decide +kernel
theorem dX12_isRight_14 : decode cX12_isRight 14 = .ok (.iload_n 2, 1) := by decide +kernel
theorem dX12_isRight_15 : decode cX12_isRight 15 = .ok (.iaload, 1) := by decide +kernel
theorem dX12_isRight_16 : decode cX12_isRight 16 = .ok (.if_icmp .ge 127, 3) := by decide +kernel
theorem dX12_isRight_19 : decode cX12_isRight 19 = .ok (.aload_n 0, 1) := by decide +kernel
theorem dX12_isRight_20 : decode cX12_isRight 20 = .ok (.getfield 62, 3) := by decide +kernel
theorem dX12_isRight_23 : decode cX12_isRight 23 = .ok (.bipush 8, 2) := by decide +kernel
theorem dX12_isRight_25 : decode cX12_isRight 25 = .ok (.iload_n 1, 1) := by decide +kernel
theorem dX12_isRight_26 : decode cX12_isRight 26 = .ok (.imul, 1) := by decide +kernel
theorem dX12_isRight_27 : decode cX12_isRight 27 = .ok (.aload_n 0, 1) := by decide +kernel
theorem dX12_isRight_28 : decode cX12_isRight 28 = .ok (.getfield 35, 3) := by decide +kernel
theorem dX12_isRight_31 : decode cX12_isRight 31 = .ok (.bipush 6, 2) := by decide +kernel
theorem dX12_isRight_33 : decode cX12_isRight 33 = .ok (.iload_n 2, 1) := by decide +kernel
theorem dX12_isRight_34 : decode cX12_isRight 34 = .ok (.imul, 1) := by decide +kernel
theorem dX12_isRight_35 : decode cX12_isRight 35 = .ok (.iload 5, 2) := by decide +kernel
theorem dX12_isRight_37 : decode cX12_isRight 37 = .ok (.iadd, 1) := by decide +kernel
theorem dX12_isRight_38 : decode cX12_isRight 38 = .ok (.iaload, 1) := by decide +kernel
theorem dX12_isRight_39 : decode cX12_isRight 39 = .ok (.iadd, 1) := by decide +kernel
theorem dX12_isRight_40 : decode cX12_isRight 40 = .ok (.iaload, 1) := by decide +kernel
theorem dX12_isRight_41 : decode cX12_isRight 41 = .ok (.istore 6, 2) := by decide +kernel
theorem dX12_isRight_43 : decode cX12_isRight 43 = .ok (.iload 6, 2) := by decide +kernel
theorem dX12_isRight_45 : decode cX12_isRight 45 = .ok (.iconst (-1), 1) := by decide +kernel
theorem dX12_isRight_46 : decode cX12_isRight 46 = .ok (.if_icmp .eq 12, 3) := by decide +kernel
theorem dX12_isRight_49 : decode cX12_isRight 49 = .ok (.aload_n 0, 1) := by decide +kernel
theorem dX12_isRight_50 : decode cX12_isRight 50 = .ok (.iload 6, 2) := by decide +kernel
theorem dX12_isRight_52 : decode cX12_isRight 52 = .ok (.invokevirtual 222, 3) := by decide +kernel
theorem dX12_isRight_55 : decode cX12_isRight 55 = .ok (.ifCond .ne 5, 3) := by decide +kernel
theorem dX12_isRight_58 : decode cX12_isRight 58 = .ok (.iconst 0, 1) := by decide +kernel
theorem dX12_isRight_59 : decode cX12_isRight 59 = .ok (.ireturn, 1) := by decide +kernel
theorem dX12_isRight_60 : decode cX12_isRight 60 = .ok (.aload_n 0, 1) := by decide +kernel
theorem dX12_isRight_61 : decode cX12_isRight 61 = .ok (.getfield 38, 3) := by decide +kernel
theorem dX12_isRight_64 : decode cX12_isRight 64 = .ok (.bipush 6, 2) := by decide +kernel
theorem dX12_isRight_66 : decode cX12_isRight 66 = .ok (.iload_n 2, 1) := by decide +kernel
theorem dX12_isRight_67 : decode cX12_isRight 67 = .ok (.imul, 1) := by decide +kernel
theorem dX12_isRight_68 : decode cX12_isRight 68 = .ok (.iload 5, 2) := by decide +kernel
theorem dX12_isRight_70 : decode cX12_isRight 70 = .ok (.iadd, 1) := by decide +kernel
theorem dX12_isRight_71 : decode cX12_isRight 71 = .ok (.iaload, 1) := by decide +kernel
theorem dX12_isRight_72 : decode cX12_isRight 72 = .ok (.iconst 1, 1) := by decide +kernel
theorem dX12_isRight_73 : decode cX12_isRight 73 = .ok (.if_icmp .ne 7, 3) := by decide +kernel
theorem dX12_isRight_76 : decode cX12_isRight 76 = .ok (.iconst 1, 1) := by decide +kernel
theorem dX12_isRight_77 : decode cX12_isRight 77 = .ok (.goto 4, 3) := by decide +kernel
theorem dX12_isRight_80 : decode cX12_isRight 80 = .ok (.iconst 0, 1) := by decide +kernel
theorem dX12_isRight_81 : decode cX12_isRight 81 = .ok (.istore 7, 2) := by decide +kernel
theorem dX12_isRight_83 : decode cX12_isRight 83 = .ok (.iload_n 3, 1) := by decide +kernel
theorem dX12_isRight_84 : decode cX12_isRight 84 = .ok (.iload 7, 2) := by decide +kernel
theorem dX12_isRight_86 : decode cX12_isRight 86 = .ok (.ifCond .eq 13, 3) := by decide +kernel
theorem dX12_isRight_89 : decode cX12_isRight 89 = .ok (.aload_n 0, 1) := by decide +kernel
theorem dX12_isRight_90 : decode cX12_isRight 90 = .ok (.iload 6, 2) := by decide +kernel
theorem dX12_isRight_92 : decode cX12_isRight 92 = .ok (.iconst 0, 1) := by decide +kernel
theorem dX12_isRight_93 : decode cX12_isRight 93 = .ok (.invokevirtual 225, 3) := by decide +kernel
theorem dX12_isRight_96 : decode cX12_isRight 96 = .ok (.goto 11, 3) := by decide +kernel
theorem dX12_isRight_99 : decode cX12_isRight 99 = .ok (.aload_n 0, 1) := by decide +kernel
theorem dX12_isRight_100 : decode cX12_isRight 100 = .ok (.iload 6, 2) := by decide +kernel
theorem dX12_isRight_102 : decode cX12_isRight 102 = .ok (.iconst 1, 1) := by decide +kernel
theorem dX12_isRight_103 : decode cX12_isRight 103 = .ok (.invokevirtual 225, 3) := by decide +kernel
theorem dX12_isRight_106 : decode cX12_isRight 106 = .ok (.ineg, 1) := by decide +kernel
theorem dX12_isRight_107 : decode cX12_isRight 107 = .ok (.iadd, 1) := by decide +kernel
theorem dX12_isRight_108 : decode cX12_isRight 108 = .ok (.istore_n 3, 1) := by decide +kernel
theorem dX12_isRight_109 : decode cX12_isRight 109 = .ok (.iload 4, 2) := by decide +kernel
theorem dX12_isRight_111 : decode cX12_isRight 111 = .ok (.iload 7, 2) := by decide +kernel
theorem dX12_isRight_113 : decode cX12_isRight 113 = .ok (.ifCond .eq 13, 3) := by decide +kernel
theorem dX12_isRight_116 : decode cX12_isRight 116 = .ok (.aload_n 0, 1) := by decide +kernel
theorem dX12_isRight_117 : decode cX12_isRight 117 = .ok (.iload 6, 2) := by decide +kernel
theorem dX12_isRight_119 : decode cX12_isRight 119 = .ok (.iconst 1, 1) := by decide +kernel
theorem dX12_isRight_120 : decode cX12_isRight 120 = .ok (.invokevirtual 225, 3) := by decide +kernel
theorem dX12_isRight_123 : decode cX12_isRight 123 = .ok (.goto 11, 3) := by decide +kernel
theorem dX12_isRight_126 : decode cX12_isRight 126 = .ok (.aload_n 0, 1) := by decide +kernel
theorem dX12_isRight_127 : decode cX12_isRight 127 = .ok (.iload 6, 2) := by decide +kernel
theorem dX12_isRight_129 : decode cX12_isRight 129 = .ok (.iconst 0, 1) := by decide +kernel
theorem dX12_isRight_130 : decode cX12_isRight 130 = .ok (.invokevirtual 225, 3) := by decide +kernel
theorem dX12_isRight_133 : decode cX12_isRight 133 = .ok (.ineg, 1) := by decide +kernel
theorem dX12_isRight_134 : decode cX12_isRight 134 = .ok (.iadd, 1) := by decide +kernel
theorem dX12_isRight_135 : decode cX12_isRight 135 = .ok (.istore 4, 2) := by decide +kernel
theorem dX12_isRight_137 : decode cX12_isRight 137 = .ok (.iinc 5 1, 3) := by decide +kernel
theorem dX12_isRight_140 : decode cX12_isRight 140 = .ok (.goto (-132), 3) := by decide +kernel
theorem dX12_isRight_143 : decode cX12_isRight 143 = .ok (.iload_n 3, 1) := by decide +kernel
theorem dX12_isRight_144 : decode cX12_isRight 144 = .ok (.aload_n 0, 1) := by decide +kernel
theorem dX12_isRight_145 : decode cX12_isRight 145 = .ok (.getfield 41, 3) := by decide +kernel
theorem dX12_isRight_148 : decode cX12_isRight 148 = .ok (.iload_n 2, 1) := by decide +kernel
theorem dX12_isRight_149 : decode cX12_isRight 149 = .ok (.iaload, 1) := by decide +kernel
theorem dX12_isRight_150 : decode cX12_isRight 150 = .ok (.if_icmp .lt 18, 3) := by decide +kernel
theorem dX12_isRight_153 : decode cX12_isRight 153 = .ok (.iload 4, 2) := by decide +kernel
theorem dX12_isRight_155 : decode cX12_isRight 155 = .ok (.aload_n 0, 1) := by decide +kernel
theorem dX12_isRight_156 : decode cX12_isRight 156 = .ok (.getfield 44, 3) := by decide +kernel
theorem dX12_isRight_159 : decode cX12_isRight 159 = .ok (.iload_n 2, 1) := by decide +kernel
theorem dX12_isRight_160 : decode cX12_isRight 160 = .ok (.iaload, 1) := by decide +kernel
theorem dX12_isRight_161 : decode cX12_isRight 161 = .ok (.if_icmp .gt 7, 3) := by decide +kernel
theorem dX12_isRight_164 : decode cX12_isRight 164 = .ok (.iconst 1, 1) := by decide +kernel
theorem dX12_isRight_165 : decode cX12_isRight 165 = .ok (.goto 4, 3) := by decide +kernel
theorem dX12_isRight_168 : decode cX12_isRight 168 = .ok (.iconst 0, 1) := by decide +kernel
theorem dX12_isRight_169 : decode cX12_isRight 169 = .ok (.ireturn, 1) := by decide +kernel
theorem cd_178 (G : ZG) (d : Nat) (K : ZKt) (F : ZFt) (hT : zt5 G.2.2.2) : CS G RX12 cX12_isRight 8 d K (some .boolean) [] (fun _ => []) 0 (bd_178 G.2.2.2 K F) := by
  unfold bd_178
  exact (CS.seq 2 (CS.decI_n (CX.pure (CE.iconst kI_0 dX12_isRight_0 zhd)) rfl (by decide) dX12_isRight_1 zhd)
  (CS.seq 5 (CS.decI (CX.pure (CE.iconst kI_0 dX12_isRight_2 zhd)) (by decide) dX12_isRight_3 zhd)
  (CS.seq 143 (CS.scope (CS.seq 8 (CS.decI (CX.pure (CE.iconst kI_0 dX12_isRight_5 zhd)) (by decide) dX12_isRight_6 zhd)
  (CS.whl (T := 19) (F := 143) (p1 := 140) (CD.pure (CC.icmp_lt_F (T := 19) (F := 143) (CE.iload dX12_isRight_8 zhd) (CE.aldI (CE.getR (CE.aload_n rfl dX12_isRight_10 zhd) fs_X12_32 dX12_isRight_11 zhd) (CE.iload_n rfl dX12_isRight_14 zhd) (Or.inl ⟨rfl, dX12_isRight_15⟩) zhd) dX12_isRight_16 rfl rfl))
  (CS.seq 137 (CS.scope (CS.seq 43 (CS.decI (CX.pure (CE.aldI (CE.getR (CE.aload_n rfl dX12_isRight_19 zhd) fs_X12_62 dX12_isRight_20 zhd) (CE.iadd (CE.imul (CE.bipush kB_8 dX12_isRight_23 zhd) (CE.iload_n rfl dX12_isRight_25 zhd) dX12_isRight_26 zhd) (CE.aldI (CE.getR (CE.aload_n rfl dX12_isRight_27 zhd) fs_X12_35 dX12_isRight_28 zhd) (CE.iadd (CE.imul (CE.bipush kB_6 dX12_isRight_31 zhd) (CE.iload_n rfl dX12_isRight_33 zhd) dX12_isRight_34 zhd) (CE.iload dX12_isRight_35 zhd) dX12_isRight_37 zhd) (Or.inl ⟨rfl, dX12_isRight_38⟩) zhd) dX12_isRight_39 zhd) (Or.inl ⟨rfl, dX12_isRight_40⟩) zhd)) (by decide) dX12_isRight_41 zhd)
  (CS.seq 60 (CS.if1 (T := 58) (F := 60) (CD.pure (CC.or (CC.icmp_eq_T (T := 58) (F := 49) (CE.iload dX12_isRight_43 zhd) (CE.iconst kI_m1 dX12_isRight_45 zhd) dX12_isRight_46 rfl rfl) (CC.if_eq_F (T := 58) (F := 60) (CE.callV (by decide) (CA.ref (CE.aload_n rfl dX12_isRight_49 zhd) (CA.int (CE.iload dX12_isRight_50 zhd) CA.nil)) zi_165 cv_X12_222 (fun _ => rfl) dX12_isRight_52 zhd) dX12_isRight_55 rfl rfl))) (CS.retZ (CX.pure (CE.iconst kI_0 dX12_isRight_58 zhd)) dX12_isRight_59) zhd)
  (CS.seq 83 (CS.decI (CX.pure (CE.bool (T := 76) (F := 80) (q := 81) (CC.icmp_eq_F (T := 76) (F := 80) (CE.aldI (CE.getR (CE.aload_n rfl dX12_isRight_60 zhd) fs_X12_38 dX12_isRight_61 zhd) (CE.iadd (CE.imul (CE.bipush kB_6 dX12_isRight_64 zhd) (CE.iload_n rfl dX12_isRight_66 zhd) dX12_isRight_67 zhd) (CE.iload dX12_isRight_68 zhd) dX12_isRight_70 zhd) (Or.inl ⟨rfl, dX12_isRight_71⟩) zhd) (CE.iconst kI_1 dX12_isRight_72 zhd) dX12_isRight_73 rfl rfl) dX12_isRight_76 rfl dX12_isRight_77 rfl zhd dX12_isRight_80 zhd)) (by decide) dX12_isRight_81 zhd)
  (CS.seq 109 (CS.setI_n (CX.pure (CE.iadd (CE.iload_n rfl dX12_isRight_83 zhd) (CE.tern (T := 89) (F := 99) (p1 := 96) (q := 107) (CC.if_ne_F (T := 89) (F := 99) (CE.iload dX12_isRight_84 zhd) dX12_isRight_86 rfl rfl) (CE.callV (by decide) (CA.ref (CE.aload_n rfl dX12_isRight_89 zhd) (CA.int (CE.iload dX12_isRight_90 zhd) (CA.int (CE.iconst kI_0 dX12_isRight_92 zhd) CA.nil))) zi_166 cv_X12_225 (fun _ => rfl) dX12_isRight_93 zhd) zex2 dX12_isRight_96 rfl zhd (CE.ineg (CE.callV (by decide) (CA.ref (CE.aload_n rfl dX12_isRight_99 zhd) (CA.int (CE.iload dX12_isRight_100 zhd) (CA.int (CE.iconst kI_1 dX12_isRight_102 zhd) CA.nil))) zi_166 cv_X12_225 (fun _ => rfl) dX12_isRight_103 zhd) dX12_isRight_106 zhd)) dX12_isRight_107 zhd)) rfl (by decide) dX12_isRight_108 zhd)
  (CS.setI (CX.pure (CE.iadd (CE.iload dX12_isRight_109 zhd) (CE.tern (T := 116) (F := 126) (p1 := 123) (q := 134) (CC.if_ne_F (T := 116) (F := 126) (CE.iload dX12_isRight_111 zhd) dX12_isRight_113 rfl rfl) (CE.callV (by decide) (CA.ref (CE.aload_n rfl dX12_isRight_116 zhd) (CA.int (CE.iload dX12_isRight_117 zhd) (CA.int (CE.iconst kI_1 dX12_isRight_119 zhd) CA.nil))) zi_166 cv_X12_225 (fun _ => rfl) dX12_isRight_120 zhd) zex2 dX12_isRight_123 rfl zhd (CE.ineg (CE.callV (by decide) (CA.ref (CE.aload_n rfl dX12_isRight_126 zhd) (CA.int (CE.iload dX12_isRight_127 zhd) (CA.int (CE.iconst kI_0 dX12_isRight_129 zhd) CA.nil))) zi_166 cv_X12_225 (fun _ => rfl) dX12_isRight_130 zhd) dX12_isRight_133 zhd)) dX12_isRight_134 zhd)) (by decide) dX12_isRight_135 zhd))))))
  (CS.inc kI_1 (by decide) dX12_isRight_137 zhd)) dX12_isRight_140 rfl zhd)))
  (CS.retZ (CX.pure (CE.bool (T := 164) (F := 168) (q := 169) (CC.and (CC.icmp_ge_F (T := 153) (F := 168) (CE.iload_n rfl dX12_isRight_143 zhd) (CE.aldI (CE.getR (CE.aload_n rfl dX12_isRight_144 zhd) fs_X12_41 dX12_isRight_145 zhd) (CE.iload_n rfl dX12_isRight_148 zhd) (Or.inl ⟨rfl, dX12_isRight_149⟩) zhd) dX12_isRight_150 rfl rfl) (CC.icmp_le_F (T := 164) (F := 168) (CE.iload dX12_isRight_153 zhd) (CE.aldI (CE.getR (CE.aload_n rfl dX12_isRight_155 zhd) fs_X12_44 dX12_isRight_156 zhd) (CE.iload_n rfl dX12_isRight_159 zhd) (Or.inl ⟨rfl, dX12_isRight_160⟩) zhd) dX12_isRight_161 rfl rfl)) dX12_isRight_164 rfl dX12_isRight_165 rfl zhd dX12_isRight_168 zhd)) dX12_isRight_169))))
theorem dX12_right_0 : decode cX12_right 0 = .ok (.iload_n 1, 1) := by decide +kernel
theorem dX12_right_1 : decode cX12_right 1 = .ok (.invokestatic 245, 3) := by decide +kernel
theorem dX12_right_4 : decode cX12_right 4 = .ok (.ifCond .eq 11, 3) := by decide +kernel
theorem dX12_right_7 : decode cX12_right 7 = .ok (.aload_n 0, 1) := by decide +kernel
theorem dX12_right_8 : decode cX12_right 8 = .ok (.iload_n 2, 1) := by decide +kernel
theorem dX12_right_9 : decode cX12_right 9 = .ok (.invokevirtual 198, 3) := by decide +kernel
theorem dX12_right_12 : decode cX12_right 12 = .ok (.ifCond .ne 8, 3) := by decide +kernel
theorem dX12_right_15 : decode cX12_right 15 = .ok (.bipush (-101), 2) := by decide +kernel
theorem dX12_right_17 : decode cX12_right 17 = .ok (.goto 17, 3) := by decide +kernel
theorem dX12_right_20 : decode cX12_right 20 = .ok (.aload_n 0, 1) := by decide +kernel
theorem dX12_right_21 : decode cX12_right 21 = .ok (.iload_n 1, 1) := by decide +kernel
theorem dX12_right_22 : decode cX12_right 22 = .ok (.iload_n 2, 1) := by decide +kernel
theorem dX12_right_23 : decode cX12_right 23 = .ok (.invokevirtual 251, 3) := by decide +kernel
theorem dX12_right_26 : decode cX12_right 26 = .ok (.ifCond .eq 7, 3) := by decide +kernel
theorem dX12_right_29 : decode cX12_right 29 = .ok (.iconst 1, 1) := by decide +kernel
theorem dX12_right_30 : decode cX12_right 30 = .ok (.goto 4, 3) := by decide +kernel
theorem dX12_right_33 : decode cX12_right 33 = .ok (.iconst 0, 1) := by decide +kernel
theorem dX12_right_34 : decode cX12_right 34 = .ok (.ireturn, 1) := by decide +kernel
theorem cd_179 (G : ZG) (d : Nat) (K : ZKt) (F : ZFt) (hT : zt5 G.2.2.2) : CS G RX12 cX12_right 3 d K (some .int) [] (fun _ => []) 0 (bd_179 G.2.2.2 K F) := by
  unfold bd_179
  exact (CS.retI (CX.pure (CE.tern (T := 15) (F := 20) (p1 := 17) (q := 34) (CC.or (CC.not (CC.if_ne_F (T := 7) (F := 15) (CE.callS (by decide) (CA.int (CE.iload_n rfl dX12_right_0 zhd) CA.nil) zi_174 cs_X12_245 (fun _ => rfl) dX12_right_1 zhd) dX12_right_4 rfl rfl)) (CC.not (CC.if_ne_T (T := 20) (F := 15) (CE.callV (by decide) (CA.ref (CE.aload_n rfl dX12_right_7 zhd) (CA.int (CE.iload_n rfl dX12_right_8 zhd) CA.nil)) zi_153 cv_X12_198 (fun _ => rfl) dX12_right_9 zhd) dX12_right_12 rfl rfl))) (CE.bipush kB_m101 dX12_right_15 zhd) zex2 dX12_right_17 rfl zhd (CE.tern (T := 29) (F := 33) (p1 := 30) (q := 34) (CC.if_ne_F (T := 29) (F := 33) (CE.callV (by decide) (CA.ref (CE.aload_n rfl dX12_right_20 zhd) (CA.int (CE.iload_n rfl dX12_right_21 zhd) (CA.int (CE.iload_n rfl dX12_right_22 zhd) CA.nil))) zi_178 cv_X12_251 (fun _ => rfl) dX12_right_23 zhd) dX12_right_26 rfl rfl) (CE.iconst kI_1 dX12_right_29 zhd) zex2 dX12_right_30 rfl zhd (CE.iconst kI_0 dX12_right_33 zhd)))) dX12_right_34)
theorem dX12_isAllRight_0 : decode cX12_isAllRight 0 = .ok (.iconst 1, 1) := by decide +kernel
theorem dX12_isAllRight_1 : decode cX12_isAllRight 1 = .ok (.istore_n 2, 1) := by decide +kernel
theorem dX12_isAllRight_2 : decode cX12_isAllRight 2 = .ok (.iconst 0, 1) := by decide +kernel
theorem dX12_isAllRight_3 : decode cX12_isAllRight 3 = .ok (.istore_n 3, 1) := by decide +kernel
theorem dX12_isAllRight_4 : decode cX12_isAllRight 4 = .ok (.iload_n 3, 1) := by decide +kernel
theorem dX12_isAllRight_5 : decode cX12_isAllRight 5 = .ok (.aload_n 0, 1) := by decide +kernel
theorem dX12_isAllRight_6 : decode cX12_isAllRight 6 = .ok (.getfield 186, 3) := by decide +kernel
theorem dX12_isAllRight_9 : decode cX12_isAllRight 9 = .ok (.if_icmp .ge 20, 3) := by decide +kernel
theorem dX12_isAllRight_12 : decode cX12_isAllRight 12 = .ok (.iload_n 2, 1) := by decide +kernel
theorem dX12_isAllRight_13 : decode cX12_isAllRight 13 = .ok (.ifCond .eq 16, 3) := by decide +kernel
theorem dX12_isAllRight_16 : decode cX12_isAllRight 16 = .ok (.aload_n 0, 1) := by decide +kernel
theorem dX12_isAllRight_17 : decode cX12_isAllRight 17 = .ok (.iload_n 1, 1) := by decide +kernel
theorem dX12_isAllRight_18 : decode cX12_isAllRight 18 = .ok (.iload_n 3, 1) := by decide +kernel
theorem dX12_isAllRight_19 : decode cX12_isAllRight 19 = .ok (.invokevirtual 251, 3) := by decide +kernel
theorem dX12_isAllRight_22 : decode cX12_isAllRight 22 = .ok (.istore_n 2, 1) := by decide +kernel
theorem dX12_isAllRight_23 : decode cX12_isAllRight 23 = .ok (.iinc 3 1, 3) := by decide +kernel
theorem dX12_isAllRight_26 : decode cX12_isAllRight 26 = .ok (.goto (-22), 3) := by decide +kernel
theorem dX12_isAllRight_29 : decode cX12_isAllRight 29 = .ok (.iload_n 2, 1) := by decide +kernel
theorem dX12_isAllRight_30 : decode cX12_isAllRight 30 = .ok (.ireturn, 1) := by decide +kernel
theorem cd_180 (G : ZG) (d : Nat) (K : ZKt) (F : ZFt) (hT : zt5 G.2.2.2) : CS G RX12 cX12_isAllRight 4 d K (some .boolean) [] (fun _ => []) 0 (bd_180 G.2.2.2 K F) := by
  unfold bd_180
  exact (CS.seq 2 (CS.decI_n (CX.pure (CE.iconst kI_1 dX12_isAllRight_0 zhd)) rfl (by decide) dX12_isAllRight_1 zhd)
  (CS.seq 29 (CS.scope (CS.seq 4 (CS.decI_n (CX.pure (CE.iconst kI_0 dX12_isAllRight_2 zhd)) rfl (by decide) dX12_isAllRight_3 zhd)
  (CS.whl (T := 16) (F := 29) (p1 := 26) (CD.pure (CC.and (CC.icmp_lt_F (T := 12) (F := 29) (CE.iload_n rfl dX12_isAllRight_4 zhd) (CE.getI (CE.aload_n rfl dX12_isAllRight_5 zhd) fs_X12_186 dX12_isAllRight_6 zhd) dX12_isAllRight_9 rfl rfl) (CC.if_ne_F (T := 16) (F := 29) (CE.iload_n rfl dX12_isAllRight_12 zhd) dX12_isAllRight_13 rfl rfl)))
  (CS.seq 23 (CS.setI_n (CX.pure (CE.callV (by decide) (CA.ref (CE.aload_n rfl dX12_isAllRight_16 zhd) (CA.int (CE.iload_n rfl dX12_isAllRight_17 zhd) (CA.int (CE.iload_n rfl dX12_isAllRight_18 zhd) CA.nil))) zi_178 cv_X12_251 (fun _ => rfl) dX12_isAllRight_19 zhd)) rfl (by decide) dX12_isAllRight_22 zhd)
  (CS.inc kI_1 (by decide) dX12_isAllRight_23 zhd)) dX12_isAllRight_26 rfl zhd)))
  (CS.retZ (CX.pure (CE.iload_n rfl dX12_isAllRight_29 zhd)) dX12_isAllRight_30)))
theorem dX12_all_0 : decode cX12_all 0 = .ok (.iconst 0, 1) := by decide +kernel
theorem dX12_all_1 : decode cX12_all 1 = .ok (.istore_n 1, 1) := by decide +kernel
theorem dX12_all_2 : decode cX12_all 2 = .ok (.iconst 0, 1) := by decide +kernel
theorem dX12_all_3 : decode cX12_all 3 = .ok (.istore_n 2, 1) := by decide +kernel
theorem dX12_all_4 : decode cX12_all 4 = .ok (.iload_n 2, 1) := by decide +kernel
theorem dX12_all_5 : decode cX12_all 5 = .ok (.bipush 6, 2) := by decide +kernel
theorem dX12_all_7 : decode cX12_all 7 = .ok (.if_icmp .ge 27, 3) := by decide +kernel
theorem dX12_all_10 : decode cX12_all 10 = .ok (.iload_n 1, 1) := by decide +kernel
theorem dX12_all_11 : decode cX12_all 11 = .ok (.aload_n 0, 1) := by decide +kernel
theorem dX12_all_12 : decode cX12_all 12 = .ok (.iload_n 2, 1) := by decide +kernel
theorem dX12_all_13 : decode cX12_all 13 = .ok (.invokevirtual 255, 3) := by decide +kernel
theorem dX12_all_16 : decode cX12_all 16 = .ok (.ifCond .eq 9, 3) := by decide +kernel
theorem dX12_all_19 : decode cX12_all 19 = .ok (.iconst 1, 1) := by decide +kernel
theorem dX12_all_20 : decode cX12_all 20 = .ok (.iload_n 2, 1) := by decide +kernel
theorem dX12_all_21 : decode cX12_all 21 = .ok (.ishl, 1) := by decide +kernel
theorem dX12_all_22 : decode cX12_all 22 = .ok (.goto 4, 3) := by decide +kernel
theorem dX12_all_25 : decode cX12_all 25 = .ok (.iconst 0, 1) := by decide +kernel
theorem dX12_all_26 : decode cX12_all 26 = .ok (.ior, 1) := by decide +kernel
theorem dX12_all_27 : decode cX12_all 27 = .ok (.istore_n 1, 1) := by decide +kernel
theorem dX12_all_28 : decode cX12_all 28 = .ok (.iinc 2 1, 3) := by decide +kernel
theorem dX12_all_31 : decode cX12_all 31 = .ok (.goto (-27), 3) := by decide +kernel
theorem dX12_all_34 : decode cX12_all 34 = .ok (.iload_n 1, 1) := by decide +kernel
theorem dX12_all_35 : decode cX12_all 35 = .ok (.ireturn, 1) := by decide +kernel
theorem cd_181 (G : ZG) (d : Nat) (K : ZKt) (F : ZFt) (hT : zt5 G.2.2.2) : CS G RX12 cX12_all 3 d K (some .int) [] (fun _ => []) 0 (bd_181 G.2.2.2 K F) := by
  unfold bd_181
  exact (CS.seq 2 (CS.decI_n (CX.pure (CE.iconst kI_0 dX12_all_0 zhd)) rfl (by decide) dX12_all_1 zhd)
  (CS.seq 34 (CS.scope (CS.seq 4 (CS.decI_n (CX.pure (CE.iconst kI_0 dX12_all_2 zhd)) rfl (by decide) dX12_all_3 zhd)
  (CS.whl (T := 10) (F := 34) (p1 := 31) (CD.pure (CC.icmp_lt_F (T := 10) (F := 34) (CE.iload_n rfl dX12_all_4 zhd) (CE.bipush kB_6 dX12_all_5 zhd) dX12_all_7 rfl rfl))
  (CS.seq 28 (CS.setI_n (CX.pure (CE.ior (CE.iload_n rfl dX12_all_10 zhd) (CE.tern (T := 19) (F := 25) (p1 := 22) (q := 26) (CC.if_ne_F (T := 19) (F := 25) (CE.callV (by decide) (CA.ref (CE.aload_n rfl dX12_all_11 zhd) (CA.int (CE.iload_n rfl dX12_all_12 zhd) CA.nil)) zi_180 cv_X12_255 (fun _ => rfl) dX12_all_13 zhd) dX12_all_16 rfl rfl) (CE.ishl (CE.iconst kI_1 dX12_all_19 zhd) (CE.iload_n rfl dX12_all_20 zhd) dX12_all_21 zhd) zex2 dX12_all_22 rfl zhd (CE.iconst kI_0 dX12_all_25 zhd)) dX12_all_26 zhd)) rfl (by decide) dX12_all_27 zhd)
  (CS.inc kI_1 (by decide) dX12_all_28 zhd)) dX12_all_31 rfl zhd)))
  (CS.retI (CX.pure (CE.iload_n rfl dX12_all_34 zhd)) dX12_all_35)))
theorem dX12_change_0 : decode cX12_change 0 = .ok (.aload_n 0, 1) := by decide +kernel
theorem dX12_change_1 : decode cX12_change 1 = .ok (.getfield 62, 3) := by decide +kernel
theorem dX12_change_4 : decode cX12_change 4 = .ok (.bipush 8, 2) := by decide +kernel
theorem dX12_change_6 : decode cX12_change 6 = .ok (.iload_n 2, 1) := by decide +kernel
theorem dX12_change_7 : decode cX12_change 7 = .ok (.imul, 1) := by decide +kernel
theorem dX12_change_8 : decode cX12_change 8 = .ok (.iload_n 1, 1) := by decide +kernel
theorem dX12_change_9 : decode cX12_change 9 = .ok (.iadd, 1) := by decide +kernel
theorem dX12_change_10 : decode cX12_change 10 = .ok (.iaload, 1) := by decide +kernel
theorem dX12_change_11 : decode cX12_change 11 = .ok (.istore 4, 2) := by decide +kernel
theorem dX12_change_13 : decode cX12_change 13 = .ok (.aload_n 0, 1) := by decide +kernel
theorem dX12_change_14 : decode cX12_change 14 = .ok (.getfield 62, 3) := by decide +kernel
theorem dX12_change_17 : decode cX12_change 17 = .ok (.bipush 8, 2) := by decide +kernel
theorem dX12_change_19 : decode cX12_change 19 = .ok (.iload_n 2, 1) := by decide +kernel
theorem dX12_change_20 : decode cX12_change 20 = .ok (.imul, 1) := by decide +kernel
theorem dX12_change_21 : decode cX12_change 21 = .ok (.iload_n 1, 1) := by decide +kernel
theorem dX12_change_22 : decode cX12_change 22 = .ok (.iadd, 1) := by decide +kernel
theorem dX12_change_23 : decode cX12_change 23 = .ok (.aload_n 0, 1) := by decide +kernel
theorem dX12_change_24 : decode cX12_change 24 = .ok (.getfield 62, 3) := by decide +kernel
theorem dX12_change_27 : decode cX12_change 27 = .ok (.bipush 8, 2) := by decide +kernel
theorem dX12_change_29 : decode cX12_change 29 = .ok (.iload_n 3, 1) := by decide +kernel
theorem dX12_change_30 : decode cX12_change 30 = .ok (.imul, 1) := by decide +kernel
theorem dX12_change_31 : decode cX12_change 31 = .ok (.iload_n 1, 1) := by decide +kernel
theorem dX12_change_32 : decode cX12_change 32 = .ok (.iadd, 1) := by decide +kernel
theorem dX12_change_33 : decode cX12_change 33 = .ok (.iaload, 1) := by decide +kernel
theorem dX12_change_34 : decode cX12_change 34 = .ok (.iastore, 1) := by decide +kernel
theorem dX12_change_35 : decode cX12_change 35 = .ok (.aload_n 0, 1) := by decide +kernel
theorem dX12_change_36 : decode cX12_change 36 = .ok (.getfield 62, 3) := by decide +kernel
theorem dX12_change_39 : decode cX12_change 39 = .ok (.bipush 8, 2) := by decide +kernel
theorem dX12_change_41 : decode cX12_change 41 = .ok (.iload_n 3, 1) := by decide +kernel
theorem dX12_change_42 : decode cX12_change 42 = .ok (.imul, 1) := by decide +kernel
theorem dX12_change_43 : decode cX12_change 43 = .ok (.iload_n 1, 1) := by decide +kernel
theorem dX12_change_44 : decode cX12_change 44 = .ok (.iadd, 1) := by decide +kernel
theorem dX12_change_45 : decode cX12_change 45 = .ok (.iload 4, 2) := by decide +kernel
theorem dX12_change_47 : decode cX12_change 47 = .ok (.iastore, 1) := by decide +kernel
theorem dX12_change_48 : decode cX12_change 48 = .ok (.return_, 1) := by decide +kernel
theorem cd_182 (G : ZG) (d : Nat) (K : ZKt) (F : ZFt) (hT : zt5 G.2.2.2) : CS G RX12 cX12_change 5 d K (none) [] (fun _ => []) 0 (bd_182 G.2.2.2 K F) := by
  unfold bd_182
  exact (CS.seq 48 (CS.seq 13 (CS.decI (CX.pure (CE.aldI (CE.getR (CE.aload_n rfl dX12_change_0 zhd) fs_X12_62 dX12_change_1 zhd) (CE.iadd (CE.imul (CE.bipush kB_8 dX12_change_4 zhd) (CE.iload_n rfl dX12_change_6 zhd) dX12_change_7 zhd) (CE.iload_n rfl dX12_change_8 zhd) dX12_change_9 zhd) (Or.inl ⟨rfl, dX12_change_10⟩) zhd)) (by decide) dX12_change_11 zhd)
  (CS.seq 35 (CS.st (CE.getR (CE.aload_n rfl dX12_change_13 zhd) fs_X12_62 dX12_change_14 zhd) (CX.pure (CE.iadd (CE.imul (CE.bipush kB_8 dX12_change_17 zhd) (CE.iload_n rfl dX12_change_19 zhd) dX12_change_20 zhd) (CE.iload_n rfl dX12_change_21 zhd) dX12_change_22 zhd)) (CX.pure (CE.aldI (CE.getR (CE.aload_n rfl dX12_change_23 zhd) fs_X12_62 dX12_change_24 zhd) (CE.iadd (CE.imul (CE.bipush kB_8 dX12_change_27 zhd) (CE.iload_n rfl dX12_change_29 zhd) dX12_change_30 zhd) (CE.iload_n rfl dX12_change_31 zhd) dX12_change_32 zhd) (Or.inl ⟨rfl, dX12_change_33⟩) zhd)) (Or.inl ⟨rfl, dX12_change_34⟩) zhd)
  (CS.st (CE.getR (CE.aload_n rfl dX12_change_35 zhd) fs_X12_62 dX12_change_36 zhd) (CX.pure (CE.iadd (CE.imul (CE.bipush kB_8 dX12_change_39 zhd) (CE.iload_n rfl dX12_change_41 zhd) dX12_change_42 zhd) (CE.iload_n rfl dX12_change_43 zhd) dX12_change_44 zhd)) (CX.pure (CE.iload dX12_change_45 zhd)) (Or.inl ⟨rfl, dX12_change_47⟩) zhd)))
  (CS.retV dX12_change_48))
theorem dX12_setsRight_0 : decode cX12_setsRight 0 = .ok (.aload_n 0, 1) := by decide +kernel
theorem dX12_setsRight_1 : decode cX12_setsRight 1 = .ok (.getfield 62, 3) := by decide +kernel
theorem dX12_setsRight_4 : decode cX12_setsRight 4 = .ok (.bipush 8, 2) := by decide +kernel
theorem dX12_setsRight_6 : decode cX12_setsRight 6 = .ok (.iload_n 2, 1) := by decide +kernel
theorem dX12_setsRight_7 : decode cX12_setsRight 7 = .ok (.imul, 1) := by decide +kernel
theorem dX12_setsRight_8 : decode cX12_setsRight 8 = .ok (.iload_n 1, 1) := by decide +kernel
theorem dX12_setsRight_9 : decode cX12_setsRight 9 = .ok (.iadd, 1) := by decide +kernel
theorem dX12_setsRight_10 : decode cX12_setsRight 10 = .ok (.iaload, 1) := by decide +kernel
theorem dX12_setsRight_11 : decode cX12_setsRight 11 = .ok (.iconst (-1), 1) := by decide +kernel
theorem dX12_setsRight_12 : decode cX12_setsRight 12 = .ok (.if_icmp .eq 34, 3) := by decide +kernel
theorem dX12_setsRight_15 : decode cX12_setsRight 15 = .ok (.aload_n 0, 1) := by decide +kernel
theorem dX12_setsRight_16 : decode cX12_setsRight 16 = .ok (.getfield 62, 3) := by decide +kernel
theorem dX12_setsRight_19 : decode cX12_setsRight 19 = .ok (.bipush 8, 2) := by decide +kernel
theorem dX12_setsRight_21 : decode cX12_setsRight 21 = .ok (.iload_n 3, 1) := by decide +kernel
theorem dX12_setsRight_22 : decode cX12_setsRight 22 = .ok (.imul, 1) := by decide +kernel
theorem dX12_setsRight_23 : decode cX12_setsRight 23 = .ok (.iload_n 1, 1) := by decide +kernel
theorem dX12_setsRight_24 : decode cX12_setsRight 24 = .ok (.iadd, 1) := by decide +kernel
theorem dX12_setsRight_25 : decode cX12_setsRight 25 = .ok (.iaload, 1) := by decide +kernel
theorem dX12_setsRight_26 : decode cX12_setsRight 26 = .ok (.iconst (-1), 1) := by decide +kernel
theorem dX12_setsRight_27 : decode cX12_setsRight 27 = .ok (.if_icmp .eq 19, 3) := by decide +kernel
theorem dX12_setsRight_30 : decode cX12_setsRight 30 = .ok (.aload_n 0, 1) := by decide +kernel
theorem dX12_setsRight_31 : decode cX12_setsRight 31 = .ok (.iload_n 2, 1) := by decide +kernel
theorem dX12_setsRight_32 : decode cX12_setsRight 32 = .ok (.invokevirtual 255, 3) := by decide +kernel
theorem dX12_setsRight_35 : decode cX12_setsRight 35 = .ok (.ifCond .eq 13, 3) := by decide +kernel
theorem dX12_setsRight_38 : decode cX12_setsRight 38 = .ok (.aload_n 0, 1) := by decide +kernel
theorem dX12_setsRight_39 : decode cX12_setsRight 39 = .ok (.iload_n 3, 1) := by decide +kernel
theorem dX12_setsRight_40 : decode cX12_setsRight 40 = .ok (.invokevirtual 255, 3) := by decide +kernel
theorem dX12_setsRight_43 : decode cX12_setsRight 43 = .ok (.ifCond .eq 5, 3) := by decide +kernel
theorem dX12_setsRight_46 : decode cX12_setsRight 46 = .ok (.iconst 0, 1) := by decide +kernel
theorem dX12_setsRight_47 : decode cX12_setsRight 47 = .ok (.ireturn, 1) := by decide +kernel
theorem dX12_setsRight_48 : decode cX12_setsRight 48 = .ok (.aload_n 0, 1) := by decide +kernel
theorem dX12_setsRight_49 : decode cX12_setsRight 49 = .ok (.iload_n 1, 1) := by decide +kernel
theorem dX12_setsRight_50 : decode cX12_setsRight 50 = .ok (.iload_n 2, 1) := by decide +kernel
theorem dX12_setsRight_51 : decode cX12_setsRight 51 = .ok (.iload_n 3, 1) := by decide +kernel
theorem dX12_setsRight_52 : decode cX12_setsRight 52 = .ok (.invokevirtual 258, 3) := by decide +kernel
theorem dX12_setsRight_55 : decode cX12_setsRight 55 = .ok (.aload_n 0, 1) := by decide +kernel
theorem dX12_setsRight_56 : decode cX12_setsRight 56 = .ok (.iload_n 2, 1) := by decide +kernel
theorem dX12_setsRight_57 : decode cX12_setsRight 57 = .ok (.invokevirtual 255, 3) := by decide +kernel
theorem dX12_setsRight_60 : decode cX12_setsRight 60 = .ok (.ifCond .eq 15, 3) := by decide +kernel
theorem dX12_setsRight_63 : decode cX12_setsRight 63 = .ok (.aload_n 0, 1) := by decide +kernel
theorem dX12_setsRight_64 : decode cX12_setsRight 64 = .ok (.iload_n 3, 1) := by decide +kernel
theorem dX12_setsRight_65 : decode cX12_setsRight 65 = .ok (.invokevirtual 255, 3) := by decide +kernel
theorem dX12_setsRight_68 : decode cX12_setsRight 68 = .ok (.ifCond .eq 7, 3) := by decide +kernel
theorem dX12_setsRight_71 : decode cX12_setsRight 71 = .ok (.iconst 1, 1) := by decide +kernel
theorem dX12_setsRight_72 : decode cX12_setsRight 72 = .ok (.goto 4, 3) := by decide +kernel
theorem dX12_setsRight_75 : decode cX12_setsRight 75 = .ok (.iconst 0, 1) := by decide +kernel
theorem dX12_setsRight_76 : decode cX12_setsRight 76 = .ok (.istore 4, 2) := by decide +kernel
theorem dX12_setsRight_78 : decode cX12_setsRight 78 = .ok (.aload_n 0, 1) := by decide +kernel
theorem dX12_setsRight_79 : decode cX12_setsRight 79 = .ok (.iload_n 1, 1) := by decide +kernel
theorem dX12_setsRight_80 : decode cX12_setsRight 80 = .ok (.iload_n 2, 1) := by decide +kernel
theorem dX12_setsRight_81 : decode cX12_setsRight 81 = .ok (.iload_n 3, 1) := by decide +kernel
theorem dX12_setsRight_82 : decode cX12_setsRight 82 = .ok (.invokevirtual 258, 3) := by decide +kernel
theorem dX12_setsRight_85 : decode cX12_setsRight 85 = .ok (.iload 4, 2) := by decide +kernel
theorem dX12_setsRight_87 : decode cX12_setsRight 87 = .ok (.ireturn, 1) := by decide +kernel
theorem cd_183 (G : ZG) (d : Nat) (K : ZKt) (F : ZFt) (hT : zt5 G.2.2.2) : CS G RX12 cX12_setsRight 5 d K (some .boolean) [] (fun _ => []) 0 (bd_183 G.2.2.2 K F) := by
  unfold bd_183
  exact (CS.seq 48 (CS.if1 (T := 46) (F := 48) (CD.pure (CC.or (CC.or (CC.icmp_eq_T (T := 46) (F := 15) (CE.aldI (CE.getR (CE.aload_n rfl dX12_setsRight_0 zhd) fs_X12_62 dX12_setsRight_1 zhd) (CE.iadd (CE.imul (CE.bipush kB_8 dX12_setsRight_4 zhd) (CE.iload_n rfl dX12_setsRight_6 zhd) dX12_setsRight_7 zhd) (CE.iload_n rfl dX12_setsRight_8 zhd) dX12_setsRight_9 zhd) (Or.inl ⟨rfl, dX12_setsRight_10⟩) zhd) (CE.iconst kI_m1 dX12_setsRight_11 zhd) dX12_setsRight_12 rfl rfl) (CC.icmp_eq_T (T := 46) (F := 30) (CE.aldI (CE.getR (CE.aload_n rfl dX12_setsRight_15 zhd) fs_X12_62 dX12_setsRight_16 zhd) (CE.iadd (CE.imul (CE.bipush kB_8 dX12_setsRight_19 zhd) (CE.iload_n rfl dX12_setsRight_21 zhd) dX12_setsRight_22 zhd) (CE.iload_n rfl dX12_setsRight_23 zhd) dX12_setsRight_24 zhd) (Or.inl ⟨rfl, dX12_setsRight_25⟩) zhd) (CE.iconst kI_m1 dX12_setsRight_26 zhd) dX12_setsRight_27 rfl rfl)) (CC.and (CC.if_ne_F (T := 38) (F := 48) (CE.callV (by decide) (CA.ref (CE.aload_n rfl dX12_setsRight_30 zhd) (CA.int (CE.iload_n rfl dX12_setsRight_31 zhd) CA.nil)) zi_180 cv_X12_255 (fun _ => rfl) dX12_setsRight_32 zhd) dX12_setsRight_35 rfl rfl) (CC.if_ne_F (T := 46) (F := 48) (CE.callV (by decide) (CA.ref (CE.aload_n rfl dX12_setsRight_38 zhd) (CA.int (CE.iload_n rfl dX12_setsRight_39 zhd) CA.nil)) zi_180 cv_X12_255 (fun _ => rfl) dX12_setsRight_40 zhd) dX12_setsRight_43 rfl rfl)))) (CS.retZ (CX.pure (CE.iconst kI_0 dX12_setsRight_46 zhd)) dX12_setsRight_47) zhd)
  (CS.seq 55 (CS.callV (CA.ref (CE.aload_n rfl dX12_setsRight_48 zhd) (CA.int (CE.iload_n rfl dX12_setsRight_49 zhd) (CA.int (CE.iload_n rfl dX12_setsRight_50 zhd) (CA.int (CE.iload_n rfl dX12_setsRight_51 zhd) CA.nil)))) zi_182 cv_X12_258 (fun _ => rfl) dX12_setsRight_52 zhd)
  (CS.seq 78 (CS.decI (CX.pure (CE.bool (T := 71) (F := 75) (q := 76) (CC.and (CC.if_ne_F (T := 63) (F := 75) (CE.callV (by decide) (CA.ref (CE.aload_n rfl dX12_setsRight_55 zhd) (CA.int (CE.iload_n rfl dX12_setsRight_56 zhd) CA.nil)) zi_180 cv_X12_255 (fun _ => rfl) dX12_setsRight_57 zhd) dX12_setsRight_60 rfl rfl) (CC.if_ne_F (T := 71) (F := 75) (CE.callV (by decide) (CA.ref (CE.aload_n rfl dX12_setsRight_63 zhd) (CA.int (CE.iload_n rfl dX12_setsRight_64 zhd) CA.nil)) zi_180 cv_X12_255 (fun _ => rfl) dX12_setsRight_65 zhd) dX12_setsRight_68 rfl rfl)) dX12_setsRight_71 rfl dX12_setsRight_72 rfl zhd dX12_setsRight_75 zhd)) (by decide) dX12_setsRight_76 zhd)
  (CS.seq 85 (CS.callV (CA.ref (CE.aload_n rfl dX12_setsRight_78 zhd) (CA.int (CE.iload_n rfl dX12_setsRight_79 zhd) (CA.int (CE.iload_n rfl dX12_setsRight_80 zhd) (CA.int (CE.iload_n rfl dX12_setsRight_81 zhd) CA.nil)))) zi_182 cv_X12_258 (fun _ => rfl) dX12_setsRight_82 zhd)
  (CS.retZ (CX.pure (CE.iload dX12_setsRight_85 zhd)) dX12_setsRight_87)))))
theorem dX12_swap_0 : decode cX12_swap 0 = .ok (.iload_n 1, 1) := by decide +kernel
theorem dX12_swap_1 : decode cX12_swap 1 = .ok (.iconst 0, 1) := by decide +kernel
theorem dX12_swap_2 : decode cX12_swap 2 = .ok (.iconst 2, 1) := by decide +kernel
theorem dX12_swap_3 : decode cX12_swap 3 = .ok (.invokestatic 142, 3) := by decide +kernel
theorem dX12_swap_6 : decode cX12_swap 6 = .ok (.ifCond .ne 6, 3) := by decide +kernel
theorem dX12_swap_9 : decode cX12_swap 9 = .ok (.bipush (-102), 2) := by decide +kernel
theorem dX12_swap_11 : decode cX12_swap 11 = .ok (.ireturn, 1) := by decide +kernel
theorem dX12_swap_12 : decode cX12_swap 12 = .ok (.iconst 0, 1) := by decide +kernel
theorem dX12_swap_13 : decode cX12_swap 13 = .ok (.istore_n 2, 1) := by decide +kernel
theorem dX12_swap_14 : decode cX12_swap 14 = .ok (.iload_n 2, 1) := by decide +kernel
theorem dX12_swap_15 : decode cX12_swap 15 = .ok (.bipush 8, 2) := by decide +kernel
theorem dX12_swap_17 : decode cX12_swap 17 = .ok (.if_icmp .ge 72, 3) := by decide +kernel
theorem dX12_swap_20 : decode cX12_swap 20 = .ok (.iconst 0, 1) := by decide +kernel
theorem dX12_swap_21 : decode cX12_swap 21 = .ok (.istore_n 3, 1) := by decide +kernel
theorem dX12_swap_22 : decode cX12_swap 22 = .ok (.iload_n 3, 1) := by decide +kernel
theorem dX12_swap_23 : decode cX12_swap 23 = .ok (.bipush 6, 2) := by decide +kernel
theorem dX12_swap_25 : decode cX12_swap 25 = .ok (.if_icmp .ge 58, 3) := by decide +kernel
theorem dX12_swap_28 : decode cX12_swap 28 = .ok (.iload_n 3, 1) := by decide +kernel
theorem dX12_swap_29 : decode cX12_swap 29 = .ok (.iconst 1, 1) := by decide +kernel
theorem dX12_swap_30 : decode cX12_swap 30 = .ok (.iadd, 1) := by decide +kernel
theorem dX12_swap_31 : decode cX12_swap 31 = .ok (.istore 4, 2) := by decide +kernel
theorem dX12_swap_33 : decode cX12_swap 33 = .ok (.iload 4, 2) := by decide +kernel
theorem dX12_swap_35 : decode cX12_swap 35 = .ok (.bipush 6, 2) := by decide +kernel
theorem dX12_swap_37 : decode cX12_swap 37 = .ok (.if_icmp .ge 40, 3) := by decide +kernel
theorem dX12_swap_40 : decode cX12_swap 40 = .ok (.aload_n 0, 1) := by decide +kernel
theorem dX12_swap_41 : decode cX12_swap 41 = .ok (.iload_n 2, 1) := by decide +kernel
theorem dX12_swap_42 : decode cX12_swap 42 = .ok (.iload_n 3, 1) := by decide +kernel
theorem dX12_swap_43 : decode cX12_swap 43 = .ok (.iload 4, 2) := by decide +kernel
theorem dX12_swap_45 : decode cX12_swap 45 = .ok (.invokevirtual 262, 3) := by decide +kernel
theorem dX12_swap_48 : decode cX12_swap 48 = .ok (.ifCond .eq 23, 3) := by decide +kernel
theorem dX12_swap_51 : decode cX12_swap 51 = .ok (.iload_n 1, 1) := by decide +kernel
theorem dX12_swap_52 : decode cX12_swap 52 = .ok (.ifCond .ne 7, 3) := by decide +kernel
theorem dX12_swap_55 : decode cX12_swap 55 = .ok (.iload_n 2, 1) := by decide +kernel
theorem dX12_swap_56 : decode cX12_swap 56 = .ok (.goto 14, 3) := by decide +kernel
theorem dX12_swap_59 : decode cX12_swap 59 = .ok (.iload_n 1, 1) := by decide +kernel
theorem dX12_swap_60 : decode cX12_swap 60 = .ok (.iconst 1, 1) := by decide +kernel
theorem dX12_swap_61 : decode cX12_swap 61 = .ok (.if_icmp .ne 7, 3) := by decide +kernel
theorem dX12_swap_64 : decode cX12_swap 64 = .ok (.iload_n 3, 1) := by decide +kernel
theorem dX12_swap_65 : decode cX12_swap 65 = .ok (.goto 5, 3) := by decide +kernel
theorem dX12_swap_68 : decode cX12_swap 68 = .ok (.iload 4, 2) := by decide +kernel
theorem dX12_swap_70 : decode cX12_swap 70 = .ok (.ireturn, 1) := by decide +kernel
theorem dX12_swap_71 : decode cX12_swap 71 = .ok (.iinc 4 1, 3) := by decide +kernel
theorem dX12_swap_74 : decode cX12_swap 74 = .ok (.goto (-41), 3) := by decide +kernel
theorem dX12_swap_77 : decode cX12_swap 77 = .ok (.iinc 3 1, 3) := by decide +kernel
theorem dX12_swap_80 : decode cX12_swap 80 = .ok (.goto (-58), 3) := by decide +kernel
theorem dX12_swap_83 : decode cX12_swap 83 = .ok (.iinc 2 1, 3) := by decide +kernel
theorem dX12_swap_86 : decode cX12_swap 86 = .ok (.goto (-72), 3) := by decide +kernel
theorem dX12_swap_89 : decode cX12_swap 89 = .ok (.iconst (-1), 1) := by decide +kernel
theorem dX12_swap_90 : decode cX12_swap 90 = .ok (.ireturn, 1) := by decide +kernel
theorem cd_184 (G : ZG) (d : Nat) (K : ZKt) (F : ZFt) (hT : zt5 G.2.2.2) : CS G RX12 cX12_swap 5 d K (some .int) [] (fun _ => []) 0 (bd_184 G.2.2.2 K F) := by
  unfold bd_184
  exact (CS.seq 12 (CS.if1 (T := 9) (F := 12) (CD.pure (CC.not (CC.if_ne_T (T := 12) (F := 9) (CE.callS (by decide) (CA.int (CE.iload_n rfl dX12_swap_0 zhd) (CA.int (CE.iconst kI_0 dX12_swap_1 zhd) (CA.int (CE.iconst kI_2 dX12_swap_2 zhd) CA.nil))) zi_135 cs_X12_142 (fun _ => rfl) dX12_swap_3 zhd) dX12_swap_6 rfl rfl))) (CS.retI (CX.pure (CE.bipush kB_m102 dX12_swap_9 zhd)) dX12_swap_11) zhd)
  (CS.seq 89 (CS.scope (CS.seq 14 (CS.decI_n (CX.pure (CE.iconst kI_0 dX12_swap_12 zhd)) rfl (by decide) dX12_swap_13 zhd)
  (CS.whl (T := 20) (F := 89) (p1 := 86) (CD.pure (CC.icmp_lt_F (T := 20) (F := 89) (CE.iload_n rfl dX12_swap_14 zhd) (CE.bipush kB_8 dX12_swap_15 zhd) dX12_swap_17 rfl rfl))
  (CS.seq 83 (CS.scope (CS.seq 22 (CS.decI_n (CX.pure (CE.iconst kI_0 dX12_swap_20 zhd)) rfl (by decide) dX12_swap_21 zhd)
  (CS.whl (T := 28) (F := 83) (p1 := 80) (CD.pure (CC.icmp_lt_F (T := 28) (F := 83) (CE.iload_n rfl dX12_swap_22 zhd) (CE.bipush kB_6 dX12_swap_23 zhd) dX12_swap_25 rfl rfl))
  (CS.seq 77 (CS.scope (CS.seq 33 (CS.decI (CX.pure (CE.iadd (CE.iload_n rfl dX12_swap_28 zhd) (CE.iconst kI_1 dX12_swap_29 zhd) dX12_swap_30 zhd)) (by decide) dX12_swap_31 zhd)
  (CS.whl (T := 40) (F := 77) (p1 := 74) (CD.pure (CC.icmp_lt_F (T := 40) (F := 77) (CE.iload dX12_swap_33 zhd) (CE.bipush kB_6 dX12_swap_35 zhd) dX12_swap_37 rfl rfl))
  (CS.seq 71 (CS.if1 (T := 51) (F := 71) (CD.nz_F (T := 51) (F := 71) (CX.callV (by decide) (CA.ref (CE.aload_n rfl dX12_swap_40 zhd) (CA.int (CE.iload_n rfl dX12_swap_41 zhd) (CA.int (CE.iload_n rfl dX12_swap_42 zhd) (CA.int (CE.iload dX12_swap_43 zhd) CA.nil)))) zi_183 cv_X12_262 (fun _ => rfl) dX12_swap_45 zhd) dX12_swap_48 rfl rfl) (CS.retI (CX.pure (CE.tern (T := 55) (F := 59) (p1 := 56) (q := 70) (CC.if_eq_F (T := 55) (F := 59) (CE.iload_n rfl dX12_swap_51 zhd) dX12_swap_52 rfl rfl) (CE.iload_n rfl dX12_swap_55 zhd) zex2 dX12_swap_56 rfl zhd (CE.tern (T := 64) (F := 68) (p1 := 65) (q := 70) (CC.icmp_eq_F (T := 64) (F := 68) (CE.iload_n rfl dX12_swap_59 zhd) (CE.iconst kI_1 dX12_swap_60 zhd) dX12_swap_61 rfl rfl) (CE.iload_n rfl dX12_swap_64 zhd) zex2 dX12_swap_65 rfl zhd (CE.iload dX12_swap_68 zhd)))) dX12_swap_70) zhd)
  (CS.inc kI_1 (by decide) dX12_swap_71 zhd)) dX12_swap_74 rfl zhd)))
  (CS.inc kI_1 (by decide) dX12_swap_77 zhd)) dX12_swap_80 rfl zhd)))
  (CS.inc kI_1 (by decide) dX12_swap_83 zhd)) dX12_swap_86 rfl zhd)))
  (CS.retI (CX.pure (CE.iconst kI_m1 dX12_swap_89 zhd)) dX12_swap_90)))
theorem dX12_told_0 : decode cX12_told 0 = .ok (.iload_n 1, 1) := by decide +kernel
theorem dX12_told_1 : decode cX12_told 1 = .ok (.invokestatic 245, 3) := by decide +kernel
theorem dX12_told_4 : decode cX12_told 4 = .ok (.ifCond .ne 6, 3) := by decide +kernel
theorem dX12_told_7 : decode cX12_told 7 = .ok (.bipush (-101), 2) := by decide +kernel
theorem dX12_told_9 : decode cX12_told 9 = .ok (.ireturn, 1) := by decide +kernel
theorem dX12_told_10 : decode cX12_told 10 = .ok (.iload_n 2, 1) := by decide +kernel
theorem dX12_told_11 : decode cX12_told 11 = .ok (.iconst 0, 1) := by decide +kernel
theorem dX12_told_12 : decode cX12_told 12 = .ok (.iconst 2, 1) := by decide +kernel
theorem dX12_told_13 : decode cX12_told 13 = .ok (.invokestatic 142, 3) := by decide +kernel
theorem dX12_told_16 : decode cX12_told 16 = .ok (.ifCond .ne 6, 3) := by decide +kernel
theorem dX12_told_19 : decode cX12_told 19 = .ok (.bipush (-102), 2) := by decide +kernel
theorem dX12_told_21 : decode cX12_told 21 = .ok (.ireturn, 1) := by decide +kernel
theorem dX12_told_22 : decode cX12_told 22 = .ok (.aload_n 0, 1) := by decide +kernel
theorem dX12_told_23 : decode cX12_told 23 = .ok (.getfield 65, 3) := by decide +kernel
theorem dX12_told_26 : decode cX12_told 26 = .ok (.iload_n 1, 1) := by decide +kernel
theorem dX12_told_27 : decode cX12_told 27 = .ok (.iaload, 1) := by decide +kernel
theorem dX12_told_28 : decode cX12_told 28 = .ok (.istore_n 3, 1) := by decide +kernel
theorem dX12_told_29 : decode cX12_told 29 = .ok (.aload_n 0, 1) := by decide +kernel
theorem dX12_told_30 : decode cX12_told 30 = .ok (.getfield 65, 3) := by decide +kernel
theorem dX12_told_33 : decode cX12_told 33 = .ok (.iload_n 1, 1) := by decide +kernel
theorem dX12_told_34 : decode cX12_told 34 = .ok (.iload_n 2, 1) := by decide +kernel
theorem dX12_told_35 : decode cX12_told 35 = .ok (.iastore, 1) := by decide +kernel
theorem dX12_told_36 : decode cX12_told 36 = .ok (.iload_n 3, 1) := by decide +kernel
theorem dX12_told_37 : decode cX12_told 37 = .ok (.ireturn, 1) := by decide +kernel
theorem cd_185 (G : ZG) (d : Nat) (K : ZKt) (F : ZFt) (hT : zt5 G.2.2.2) : CS G RX12 cX12_told 4 d K (some .int) [] (fun _ => []) 0 (bd_185 G.2.2.2 K F) := by
  unfold bd_185
  exact (CS.seq 10 (CS.if1 (T := 7) (F := 10) (CD.pure (CC.not (CC.if_ne_T (T := 10) (F := 7) (CE.callS (by decide) (CA.int (CE.iload_n rfl dX12_told_0 zhd) CA.nil) zi_174 cs_X12_245 (fun _ => rfl) dX12_told_1 zhd) dX12_told_4 rfl rfl))) (CS.retI (CX.pure (CE.bipush kB_m101 dX12_told_7 zhd)) dX12_told_9) zhd)
  (CS.seq 22 (CS.if1 (T := 19) (F := 22) (CD.pure (CC.not (CC.if_ne_T (T := 22) (F := 19) (CE.callS (by decide) (CA.int (CE.iload_n rfl dX12_told_10 zhd) (CA.int (CE.iconst kI_0 dX12_told_11 zhd) (CA.int (CE.iconst kI_2 dX12_told_12 zhd) CA.nil))) zi_135 cs_X12_142 (fun _ => rfl) dX12_told_13 zhd) dX12_told_16 rfl rfl))) (CS.retI (CX.pure (CE.bipush kB_m102 dX12_told_19 zhd)) dX12_told_21) zhd)
  (CS.seq 29 (CS.decI_n (CX.pure (CE.aldI (CE.getR (CE.aload_n rfl dX12_told_22 zhd) fs_X12_65 dX12_told_23 zhd) (CE.iload_n rfl dX12_told_26 zhd) (Or.inl ⟨rfl, dX12_told_27⟩) zhd)) rfl (by decide) dX12_told_28 zhd)
  (CS.seq 36 (CS.st (CE.getR (CE.aload_n rfl dX12_told_29 zhd) fs_X12_65 dX12_told_30 zhd) (CX.pure (CE.iload_n rfl dX12_told_33 zhd)) (CX.pure (CE.iload_n rfl dX12_told_34 zhd)) (Or.inl ⟨rfl, dX12_told_35⟩) zhd)
  (CS.retI (CX.pure (CE.iload_n rfl dX12_told_36 zhd)) dX12_told_37)))))
theorem dX12_lotsOf_0 : decode cX12_lotsOf 0 = .ok (.iconst 0, 1) := by decide +kernel
theorem dX12_lotsOf_1 : decode cX12_lotsOf 1 = .ok (.istore_n 2, 1) := by decide +kernel
theorem dX12_lotsOf_2 : decode cX12_lotsOf 2 = .ok (.iconst 0, 1) := by decide +kernel
theorem dX12_lotsOf_3 : decode cX12_lotsOf 3 = .ok (.istore_n 3, 1) := by decide +kernel
theorem dX12_lotsOf_4 : decode cX12_lotsOf 4 = .ok (.iload_n 3, 1) := by decide +kernel
theorem dX12_lotsOf_5 : decode cX12_lotsOf 5 = .ok (.bipush 8, 2) := by decide +kernel
theorem dX12_lotsOf_7 : decode cX12_lotsOf 7 = .ok (.if_icmp .ge 44, 3) := by decide +kernel
theorem dX12_lotsOf_10 : decode cX12_lotsOf 10 = .ok (.aload_n 0, 1) := by decide +kernel
theorem dX12_lotsOf_11 : decode cX12_lotsOf 11 = .ok (.getfield 62, 3) := by decide +kernel
theorem dX12_lotsOf_14 : decode cX12_lotsOf 14 = .ok (.bipush 8, 2) := by decide +kernel
theorem dX12_lotsOf_16 : decode cX12_lotsOf 16 = .ok (.iload_n 1, 1) := by decide +kernel
theorem dX12_lotsOf_17 : decode cX12_lotsOf 17 = .ok (.imul, 1) := by decide +kernel
theorem dX12_lotsOf_18 : decode cX12_lotsOf 18 = .ok (.iload_n 3, 1) := by decide +kernel
theorem dX12_lotsOf_19 : decode cX12_lotsOf 19 = .ok (.iadd, 1) := by decide +kernel
theorem dX12_lotsOf_20 : decode cX12_lotsOf 20 = .ok (.iaload, 1) := by decide +kernel
theorem dX12_lotsOf_21 : decode cX12_lotsOf 21 = .ok (.istore 4, 2) := by decide +kernel
theorem dX12_lotsOf_23 : decode cX12_lotsOf 23 = .ok (.iload_n 2, 1) := by decide +kernel
theorem dX12_lotsOf_24 : decode cX12_lotsOf 24 = .ok (.iload 4, 2) := by decide +kernel
theorem dX12_lotsOf_26 : decode cX12_lotsOf 26 = .ok (.iconst (-1), 1) := by decide +kernel
theorem dX12_lotsOf_27 : decode cX12_lotsOf 27 = .ok (.if_icmp .ne 7, 3) := by decide +kernel
theorem dX12_lotsOf_30 : decode cX12_lotsOf 30 = .ok (.iconst 0, 1) := by decide +kernel
theorem dX12_lotsOf_31 : decode cX12_lotsOf 31 = .ok (.goto 12, 3) := by decide +kernel
theorem dX12_lotsOf_34 : decode cX12_lotsOf 34 = .ok (.iconst 1, 1) := by decide +kernel
theorem dX12_lotsOf_35 : decode cX12_lotsOf 35 = .ok (.aload_n 0, 1) := by decide +kernel
theorem dX12_lotsOf_36 : decode cX12_lotsOf 36 = .ok (.getfield 50, 3) := by decide +kernel
theorem dX12_lotsOf_39 : decode cX12_lotsOf 39 = .ok (.iload 4, 2) := by decide +kernel
theorem dX12_lotsOf_41 : decode cX12_lotsOf 41 = .ok (.iaload, 1) := by decide +kernel
theorem dX12_lotsOf_42 : decode cX12_lotsOf 42 = .ok (.ishl, 1) := by decide +kernel
theorem dX12_lotsOf_43 : decode cX12_lotsOf 43 = .ok (.ior, 1) := by decide +kernel
theorem dX12_lotsOf_44 : decode cX12_lotsOf 44 = .ok (.istore_n 2, 1) := by decide +kernel
theorem dX12_lotsOf_45 : decode cX12_lotsOf 45 = .ok (.iinc 3 1, 3) := by decide +kernel
theorem dX12_lotsOf_48 : decode cX12_lotsOf 48 = .ok (.goto (-44), 3) := by decide +kernel
theorem dX12_lotsOf_51 : decode cX12_lotsOf 51 = .ok (.iload_n 2, 1) := by decide +kernel
theorem dX12_lotsOf_52 : decode cX12_lotsOf 52 = .ok (.ireturn, 1) := by decide +kernel
theorem cd_186 (G : ZG) (d : Nat) (K : ZKt) (F : ZFt) (hT : zt5 G.2.2.2) : CS G RX12 cX12_lotsOf 5 d K (some .int) [] (fun _ => []) 0 (bd_186 G.2.2.2 K F) := by
  unfold bd_186
  exact (CS.seq 2 (CS.decI_n (CX.pure (CE.iconst kI_0 dX12_lotsOf_0 zhd)) rfl (by decide) dX12_lotsOf_1 zhd)
  (CS.seq 51 (CS.scope (CS.seq 4 (CS.decI_n (CX.pure (CE.iconst kI_0 dX12_lotsOf_2 zhd)) rfl (by decide) dX12_lotsOf_3 zhd)
  (CS.whl (T := 10) (F := 51) (p1 := 48) (CD.pure (CC.icmp_lt_F (T := 10) (F := 51) (CE.iload_n rfl dX12_lotsOf_4 zhd) (CE.bipush kB_8 dX12_lotsOf_5 zhd) dX12_lotsOf_7 rfl rfl))
  (CS.seq 45 (CS.scope (CS.seq 23 (CS.decI (CX.pure (CE.aldI (CE.getR (CE.aload_n rfl dX12_lotsOf_10 zhd) fs_X12_62 dX12_lotsOf_11 zhd) (CE.iadd (CE.imul (CE.bipush kB_8 dX12_lotsOf_14 zhd) (CE.iload_n rfl dX12_lotsOf_16 zhd) dX12_lotsOf_17 zhd) (CE.iload_n rfl dX12_lotsOf_18 zhd) dX12_lotsOf_19 zhd) (Or.inl ⟨rfl, dX12_lotsOf_20⟩) zhd)) (by decide) dX12_lotsOf_21 zhd)
  (CS.setI_n (CX.pure (CE.ior (CE.iload_n rfl dX12_lotsOf_23 zhd) (CE.tern (T := 30) (F := 34) (p1 := 31) (q := 43) (CC.icmp_eq_F (T := 30) (F := 34) (CE.iload dX12_lotsOf_24 zhd) (CE.iconst kI_m1 dX12_lotsOf_26 zhd) dX12_lotsOf_27 rfl rfl) (CE.iconst kI_0 dX12_lotsOf_30 zhd) zex2 dX12_lotsOf_31 rfl zhd (CE.ishl (CE.iconst kI_1 dX12_lotsOf_34 zhd) (CE.aldI (CE.getR (CE.aload_n rfl dX12_lotsOf_35 zhd) fs_X12_50 dX12_lotsOf_36 zhd) (CE.iload dX12_lotsOf_39 zhd) (Or.inl ⟨rfl, dX12_lotsOf_41⟩) zhd) dX12_lotsOf_42 zhd)) dX12_lotsOf_43 zhd)) rfl (by decide) dX12_lotsOf_44 zhd)))
  (CS.inc kI_1 (by decide) dX12_lotsOf_45 zhd)) dX12_lotsOf_48 rfl zhd)))
  (CS.retI (CX.pure (CE.iload_n rfl dX12_lotsOf_51 zhd)) dX12_lotsOf_52)))
theorem dX12_ones_0 : decode cX12_ones 0 = .ok (.iconst 0, 1) := by decide +kernel
theorem dX12_ones_1 : decode cX12_ones 1 = .ok (.istore_n 1, 1) := by decide +kernel
theorem dX12_ones_2 : decode cX12_ones 2 = .ok (.iload_n 0, 1) := by decide +kernel
theorem dX12_ones_3 : decode cX12_ones 3 = .ok (.istore_n 2, 1) := by decide +kernel
theorem dX12_ones_4 : decode cX12_ones 4 = .ok (.iload_n 2, 1) := by decide +kernel
theorem dX12_ones_5 : decode cX12_ones 5 = .ok (.ifCond .eq 15, 3) := by decide +kernel
theorem dX12_ones_8 : decode cX12_ones 8 = .ok (.iinc 1 1, 3) := by decide +kernel
theorem dX12_ones_11 : decode cX12_ones 11 = .ok (.iload_n 2, 1) := by decide +kernel
theorem dX12_ones_12 : decode cX12_ones 12 = .ok (.iload_n 2, 1) := by decide +kernel
theorem dX12_ones_13 : decode cX12_ones 13 = .ok (.iconst 1, 1) := by decide +kernel
theorem dX12_ones_14 : decode cX12_ones 14 = .ok (.isub, 1) := by decide +kernel
theorem dX12_ones_15 : decode cX12_ones 15 = .ok (.iand, 1) := by decide +kernel
theorem dX12_ones_16 : decode cX12_ones 16 = .ok (.istore_n 2, 1) := by decide +kernel
theorem dX12_ones_17 : decode cX12_ones 17 = .ok (.goto (-13), 3) := by decide +kernel
theorem dX12_ones_20 : decode cX12_ones 20 = .ok (.iload_n 1, 1) := by decide +kernel
theorem dX12_ones_21 : decode cX12_ones 21 = .ok (.ireturn, 1) := by decide +kernel
theorem cd_187 (G : ZG) (d : Nat) (K : ZKt) (F : ZFt) (hT : zt5 G.2.2.2) : CS G RX12 cX12_ones 3 d K (some .int) [] (fun _ => []) 0 (bd_187 G.2.2.2 K F) := by
  unfold bd_187
  exact (CS.seq 2 (CS.decI_n (CX.pure (CE.iconst kI_0 dX12_ones_0 zhd)) rfl (by decide) dX12_ones_1 zhd)
  (CS.seq 20 (CS.scope (CS.seq 4 (CS.decI_n (CX.pure (CE.iload_n rfl dX12_ones_2 zhd)) rfl (by decide) dX12_ones_3 zhd)
  (CS.whl (T := 8) (F := 20) (p1 := 17) (CD.pure (CC.if_ne_F (T := 8) (F := 20) (CE.iload_n rfl dX12_ones_4 zhd) dX12_ones_5 rfl rfl))
  (CS.seq 11 (CS.inc kI_1 (by decide) dX12_ones_8 zhd)
  (CS.setI_n (CX.pure (CE.iand (CE.iload_n rfl dX12_ones_11 zhd) (CE.isub (CE.iload_n rfl dX12_ones_12 zhd) (CE.iconst kI_1 dX12_ones_13 zhd) dX12_ones_14 zhd) dX12_ones_15 zhd)) rfl (by decide) dX12_ones_16 zhd)) dX12_ones_17 rfl zhd)))
  (CS.retI (CX.pure (CE.iload_n rfl dX12_ones_20 zhd)) dX12_ones_21)))
theorem dX12_blamedLots_0 : decode cX12_blamedLots 0 = .ok (.iconst (-1), 1) := by decide +kernel
theorem dX12_blamedLots_1 : decode cX12_blamedLots 1 = .ok (.istore_n 1, 1) := by decide +kernel
theorem dX12_blamedLots_2 : decode cX12_blamedLots 2 = .ok (.iconst 0, 1) := by decide +kernel
theorem dX12_blamedLots_3 : decode cX12_blamedLots 3 = .ok (.istore_n 2, 1) := by decide +kernel
theorem dX12_blamedLots_4 : decode cX12_blamedLots 4 = .ok (.iload_n 2, 1) := by decide +kernel
theorem dX12_blamedLots_5 : decode cX12_blamedLots 5 = .ok (.sipush 4096, 3) := by decide +kernel
theorem dX12_blamedLots_8 : decode cX12_blamedLots 8 = .ok (.if_icmp .ge 116, 3) := by decide +kernel
theorem dX12_blamedLots_11 : decode cX12_blamedLots 11 = .ok (.iload_n 1, 1) := by decide +kernel
theorem dX12_blamedLots_12 : decode cX12_blamedLots 12 = .ok (.iconst (-1), 1) := by decide +kernel
theorem dX12_blamedLots_13 : decode cX12_blamedLots 13 = .ok (.if_icmp .eq 14, 3) := by decide +kernel
theorem dX12_blamedLots_16 : decode cX12_blamedLots 16 = .ok (.iload_n 2, 1) := by decide +kernel
theorem dX12_blamedLots_17 : decode cX12_blamedLots 17 = .ok (.invokestatic 265, 3) := by decide +kernel
theorem dX12_blamedLots_20 : decode cX12_blamedLots 20 = .ok (.iload_n 1, 1) := by decide +kernel
theorem dX12_blamedLots_21 : decode cX12_blamedLots 21 = .ok (.invokestatic 265, 3) := by decide +kernel
theorem dX12_blamedLots_24 : decode cX12_blamedLots 24 = .ok (.if_icmp .ge 7, 3) := by decide +kernel
theorem dX12_blamedLots_27 : decode cX12_blamedLots 27 = .ok (.iconst 1, 1) := by decide +kernel
theorem dX12_blamedLots_28 : decode cX12_blamedLots 28 = .ok (.goto 4, 3) := by decide +kernel
theorem dX12_blamedLots_31 : decode cX12_blamedLots 31 = .ok (.iconst 0, 1) := by decide +kernel
theorem dX12_blamedLots_32 : decode cX12_blamedLots 32 = .ok (.istore_n 3, 1) := by decide +kernel
theorem dX12_blamedLots_33 : decode cX12_blamedLots 33 = .ok (.iconst 0, 1) := by decide +kernel
theorem dX12_blamedLots_34 : decode cX12_blamedLots 34 = .ok (.istore 4, 2) := by decide +kernel
theorem dX12_blamedLots_36 : decode cX12_blamedLots 36 = .ok (.iload 4, 2) := by decide +kernel
theorem dX12_blamedLots_38 : decode cX12_blamedLots 38 = .ok (.bipush 6, 2) := by decide +kernel
theorem dX12_blamedLots_40 : decode cX12_blamedLots 40 = .ok (.if_icmp .ge 68, 3) := by decide +kernel
theorem dX12_blamedLots_43 : decode cX12_blamedLots 43 = .ok (.iload_n 3, 1) := by decide +kernel
theorem dX12_blamedLots_44 : decode cX12_blamedLots 44 = .ok (.ifCond .eq 64, 3) := by decide +kernel
theorem dX12_blamedLots_47 : decode cX12_blamedLots 47 = .ok (.aload_n 0, 1) := by decide +kernel
theorem dX12_blamedLots_48 : decode cX12_blamedLots 48 = .ok (.getfield 65, 3) := by decide +kernel
theorem dX12_blamedLots_51 : decode cX12_blamedLots 51 = .ok (.iload 4, 2) := by decide +kernel
theorem dX12_blamedLots_53 : decode cX12_blamedLots 53 = .ok (.iaload, 1) := by decide +kernel
theorem dX12_blamedLots_54 : decode cX12_blamedLots 54 = .ok (.ifCond .eq 18, 3) := by decide +kernel
theorem dX12_blamedLots_57 : decode cX12_blamedLots 57 = .ok (.aload_n 0, 1) := by decide +kernel
theorem dX12_blamedLots_58 : decode cX12_blamedLots 58 = .ok (.iload 4, 2) := by decide +kernel
theorem dX12_blamedLots_60 : decode cX12_blamedLots 60 = .ok (.invokevirtual 268, 3) := by decide +kernel
theorem dX12_blamedLots_63 : decode cX12_blamedLots 63 = .ok (.iload_n 2, 1) := by decide +kernel
theorem dX12_blamedLots_64 : decode cX12_blamedLots 64 = .ok (.iand, 1) := by decide +kernel
theorem dX12_blamedLots_65 : decode cX12_blamedLots 65 = .ok (.ifCond .eq 7, 3) := by decide +kernel
theorem dX12_blamedLots_68 : decode cX12_blamedLots 68 = .ok (.iconst 1, 1) := by decide +kernel
theorem dX12_blamedLots_69 : decode cX12_blamedLots 69 = .ok (.goto 4, 3) := by decide +kernel
theorem dX12_blamedLots_72 : decode cX12_blamedLots 72 = .ok (.iconst 0, 1) := by decide +kernel
theorem dX12_blamedLots_73 : decode cX12_blamedLots 73 = .ok (.istore 5, 2) := by decide +kernel
theorem dX12_blamedLots_75 : decode cX12_blamedLots 75 = .ok (.aload_n 0, 1) := by decide +kernel
theorem dX12_blamedLots_76 : decode cX12_blamedLots 76 = .ok (.getfield 65, 3) := by decide +kernel
theorem dX12_blamedLots_79 : decode cX12_blamedLots 79 = .ok (.iload 4, 2) := by decide +kernel
theorem dX12_blamedLots_81 : decode cX12_blamedLots 81 = .ok (.iaload, 1) := by decide +kernel
theorem dX12_blamedLots_82 : decode cX12_blamedLots 82 = .ok (.iconst 1, 1) := by decide +kernel
theorem dX12_blamedLots_83 : decode cX12_blamedLots 83 = .ok (.if_icmp .ne 8, 3) := by decide +kernel
theorem dX12_blamedLots_86 : decode cX12_blamedLots 86 = .ok (.iload 5, 2) := by decide +kernel
theorem dX12_blamedLots_88 : decode cX12_blamedLots 88 = .ok (.goto 13, 3) := by decide +kernel
theorem dX12_blamedLots_91 : decode cX12_blamedLots 91 = .ok (.iload 5, 2) := by decide +kernel
theorem dX12_blamedLots_93 : decode cX12_blamedLots 93 = .ok (.ifCond .ne 7, 3) := by decide +kernel
theorem dX12_blamedLots_96 : decode cX12_blamedLots 96 = .ok (.iconst 1, 1) := by decide +kernel
theorem dX12_blamedLots_97 : decode cX12_blamedLots 97 = .ok (.goto 4, 3) := by decide +kernel
theorem dX12_blamedLots_100 : decode cX12_blamedLots 100 = .ok (.iconst 0, 1) := by decide +kernel
theorem dX12_blamedLots_101 : decode cX12_blamedLots 101 = .ok (.istore_n 3, 1) := by decide +kernel
theorem dX12_blamedLots_102 : decode cX12_blamedLots 102 = .ok (.iinc 4 1, 3) := by decide +kernel
theorem dX12_blamedLots_105 : decode cX12_blamedLots 105 = .ok (.goto (-69), 3) := by decide +kernel
theorem dX12_blamedLots_108 : decode cX12_blamedLots 108 = .ok (.iload_n 3, 1) := by decide +kernel
theorem dX12_blamedLots_109 : decode cX12_blamedLots 109 = .ok (.ifCond .eq 7, 3) := by decide +kernel
theorem dX12_blamedLots_112 : decode cX12_blamedLots 112 = .ok (.iload_n 2, 1) := by decide +kernel
theorem dX12_blamedLots_113 : decode cX12_blamedLots 113 = .ok (.goto 4, 3) := by decide +kernel
theorem dX12_blamedLots_116 : decode cX12_blamedLots 116 = .ok (.iload_n 1, 1) := by decide +kernel
theorem dX12_blamedLots_117 : decode cX12_blamedLots 117 = .ok (.istore_n 1, 1) := by decide +kernel
theorem dX12_blamedLots_118 : decode cX12_blamedLots 118 = .ok (.iinc 2 1, 3) := by decide +kernel
theorem dX12_blamedLots_121 : decode cX12_blamedLots 121 = .ok (.goto (-117), 3) := by decide +kernel
theorem dX12_blamedLots_124 : decode cX12_blamedLots 124 = .ok (.iload_n 1, 1) := by decide +kernel
theorem dX12_blamedLots_125 : decode cX12_blamedLots 125 = .ok (.ireturn, 1) := by decide +kernel
theorem cd_188 (G : ZG) (d : Nat) (K : ZKt) (F : ZFt) (hT : zt5 G.2.2.2) : CS G RX12 cX12_blamedLots 6 d K (some .int) [] (fun _ => []) 0 (bd_188 G.2.2.2 K F) := by
  unfold bd_188
  exact (CS.seq 2 (CS.decI_n (CX.pure (CE.iconst kI_m1 dX12_blamedLots_0 zhd)) rfl (by decide) dX12_blamedLots_1 zhd)
  (CS.seq 124 (CS.scope (CS.seq 4 (CS.decI_n (CX.pure (CE.iconst kI_0 dX12_blamedLots_2 zhd)) rfl (by decide) dX12_blamedLots_3 zhd)
  (CS.whl (T := 11) (F := 124) (p1 := 121) (CD.pure (CC.icmp_lt_F (T := 11) (F := 124) (CE.iload_n rfl dX12_blamedLots_4 zhd) (CE.sipush kS_4096 dX12_blamedLots_5 zhd) dX12_blamedLots_8 rfl rfl))
  (CS.seq 118 (CS.scope (CS.seq 33 (CS.decI_n (CX.pure (CE.bool (T := 27) (F := 31) (q := 32) (CC.or (CC.icmp_eq_T (T := 27) (F := 16) (CE.iload_n rfl dX12_blamedLots_11 zhd) (CE.iconst kI_m1 dX12_blamedLots_12 zhd) dX12_blamedLots_13 rfl rfl) (CC.icmp_lt_F (T := 27) (F := 31) (CE.callS (by decide) (CA.int (CE.iload_n rfl dX12_blamedLots_16 zhd) CA.nil) zi_187 cs_X12_265 (fun _ => rfl) dX12_blamedLots_17 zhd) (CE.callS (by decide) (CA.int (CE.iload_n rfl dX12_blamedLots_20 zhd) CA.nil) zi_187 cs_X12_265 (fun _ => rfl) dX12_blamedLots_21 zhd) dX12_blamedLots_24 rfl rfl)) dX12_blamedLots_27 rfl dX12_blamedLots_28 rfl zhd dX12_blamedLots_31 zhd)) rfl (by decide) dX12_blamedLots_32 zhd)
  (CS.seq 108 (CS.scope (CS.seq 36 (CS.decI (CX.pure (CE.iconst kI_0 dX12_blamedLots_33 zhd)) (by decide) dX12_blamedLots_34 zhd)
  (CS.whl (T := 47) (F := 108) (p1 := 105) (CD.pure (CC.and (CC.icmp_lt_F (T := 43) (F := 108) (CE.iload dX12_blamedLots_36 zhd) (CE.bipush kB_6 dX12_blamedLots_38 zhd) dX12_blamedLots_40 rfl rfl) (CC.if_ne_F (T := 47) (F := 108) (CE.iload_n rfl dX12_blamedLots_43 zhd) dX12_blamedLots_44 rfl rfl)))
  (CS.seq 102 (CS.scope (CS.seq 75 (CS.decI (CX.pure (CE.bool (T := 68) (F := 72) (q := 73) (CC.and (CC.if_ne_F (T := 57) (F := 72) (CE.aldI (CE.getR (CE.aload_n rfl dX12_blamedLots_47 zhd) fs_X12_65 dX12_blamedLots_48 zhd) (CE.iload dX12_blamedLots_51 zhd) (Or.inl ⟨rfl, dX12_blamedLots_53⟩) zhd) dX12_blamedLots_54 rfl rfl) (CC.if_ne_F (T := 68) (F := 72) (CE.iand (CE.callV (by decide) (CA.ref (CE.aload_n rfl dX12_blamedLots_57 zhd) (CA.int (CE.iload dX12_blamedLots_58 zhd) CA.nil)) zi_186 cv_X12_268 (fun _ => rfl) dX12_blamedLots_60 zhd) (CE.iload_n rfl dX12_blamedLots_63 zhd) dX12_blamedLots_64 zhd) dX12_blamedLots_65 rfl rfl)) dX12_blamedLots_68 rfl dX12_blamedLots_69 rfl zhd dX12_blamedLots_72 zhd)) (by decide) dX12_blamedLots_73 zhd)
  (CS.setI_n (CX.pure (CE.tern (T := 86) (F := 91) (p1 := 88) (q := 101) (CC.icmp_eq_F (T := 86) (F := 91) (CE.aldI (CE.getR (CE.aload_n rfl dX12_blamedLots_75 zhd) fs_X12_65 dX12_blamedLots_76 zhd) (CE.iload dX12_blamedLots_79 zhd) (Or.inl ⟨rfl, dX12_blamedLots_81⟩) zhd) (CE.iconst kI_1 dX12_blamedLots_82 zhd) dX12_blamedLots_83 rfl rfl) (CE.iload dX12_blamedLots_86 zhd) zex2 dX12_blamedLots_88 rfl zhd (CE.bool (T := 96) (F := 100) (q := 101) (CC.not (CC.if_ne_T (T := 100) (F := 96) (CE.iload dX12_blamedLots_91 zhd) dX12_blamedLots_93 rfl rfl)) dX12_blamedLots_96 rfl dX12_blamedLots_97 rfl zhd dX12_blamedLots_100 zhd))) rfl (by decide) dX12_blamedLots_101 zhd)))
  (CS.inc kI_1 (by decide) dX12_blamedLots_102 zhd)) dX12_blamedLots_105 rfl zhd)))
  (CS.setI_n (CX.pure (CE.tern (T := 112) (F := 116) (p1 := 113) (q := 117) (CC.if_ne_F (T := 112) (F := 116) (CE.iload_n rfl dX12_blamedLots_108 zhd) dX12_blamedLots_109 rfl rfl) (CE.iload_n rfl dX12_blamedLots_112 zhd) zex2 dX12_blamedLots_113 rfl zhd (CE.iload_n rfl dX12_blamedLots_116 zhd))) rfl (by decide) dX12_blamedLots_117 zhd))))
  (CS.inc kI_1 (by decide) dX12_blamedLots_118 zhd)) dX12_blamedLots_121 rfl zhd)))
  (CS.retI (CX.pure (CE.iload_n rfl dX12_blamedLots_124 zhd)) dX12_blamedLots_125)))
theorem dX12_blamed_0 : decode cX12_blamed 0 = .ok (.aload_n 0, 1) := by decide +kernel
theorem dX12_blamed_1 : decode cX12_blamed 1 = .ok (.invokevirtual 271, 3) := by decide +kernel
theorem dX12_blamed_4 : decode cX12_blamed 4 = .ok (.ireturn, 1) := by decide +kernel
theorem cd_189 (G : ZG) (d : Nat) (K : ZKt) (F : ZFt) (hT : zt5 G.2.2.2) : CS G RX12 cX12_blamed 1 d K (some .int) [] (fun _ => []) 0 (bd_189 G.2.2.2 K F) := by
  unfold bd_189
  exact (CS.retI (CX.pure (CE.callV (by decide) (CA.ref (CE.aload_n rfl dX12_blamed_0 zhd) CA.nil) zi_188 cv_X12_271 (fun _ => rfl) dX12_blamed_1 zhd)) dX12_blamed_4)
theorem dX12_called_0 : decode cX12_called 0 = .ok (.aload_n 0, 1) := by decide +kernel
theorem dX12_called_1 : decode cX12_called 1 = .ok (.invokevirtual 271, 3) := by decide +kernel
theorem dX12_called_4 : decode cX12_called 4 = .ok (.istore_n 1, 1) := by decide +kernel
theorem dX12_called_5 : decode cX12_called 5 = .ok (.iload_n 1, 1) := by decide +kernel
theorem dX12_called_6 : decode cX12_called 6 = .ok (.iconst (-1), 1) := by decide +kernel
theorem dX12_called_7 : decode cX12_called 7 = .ok (.if_icmp .ne 5, 3) := by decide +kernel
theorem dX12_called_10 : decode cX12_called 10 = .ok (.iconst (-1), 1) := by decide +kernel
theorem dX12_called_11 : decode cX12_called 11 = .ok (.ireturn, 1) := by decide +kernel
theorem dX12_called_12 : decode cX12_called 12 = .ok (.iconst 0, 1) := by decide +kernel
theorem dX12_called_13 : decode cX12_called 13 = .ok (.istore_n 2, 1) := by decide +kernel
theorem dX12_called_14 : decode cX12_called 14 = .ok (.iconst 0, 1) := by decide +kernel
theorem dX12_called_15 : decode cX12_called 15 = .ok (.istore_n 3, 1) := by decide +kernel
theorem dX12_called_16 : decode cX12_called 16 = .ok (.iload_n 3, 1) := by decide +kernel
theorem dX12_called_17 : decode cX12_called 17 = .ok (.bipush 6, 2) := by decide +kernel
theorem dX12_called_19 : decode cX12_called 19 = .ok (.if_icmp .ge 29, 3) := by decide +kernel
theorem dX12_called_22 : decode cX12_called 22 = .ok (.iload_n 2, 1) := by decide +kernel
theorem dX12_called_23 : decode cX12_called 23 = .ok (.aload_n 0, 1) := by decide +kernel
theorem dX12_called_24 : decode cX12_called 24 = .ok (.iload_n 3, 1) := by decide +kernel
theorem dX12_called_25 : decode cX12_called 25 = .ok (.invokevirtual 268, 3) := by decide +kernel
theorem dX12_called_28 : decode cX12_called 28 = .ok (.iload_n 1, 1) := by decide +kernel
theorem dX12_called_29 : decode cX12_called 29 = .ok (.iand, 1) := by decide +kernel
theorem dX12_called_30 : decode cX12_called 30 = .ok (.ifCond .eq 9, 3) := by decide +kernel
theorem dX12_called_33 : decode cX12_called 33 = .ok (.iconst 1, 1) := by decide +kernel
theorem dX12_called_34 : decode cX12_called 34 = .ok (.iload_n 3, 1) := by decide +kernel
theorem dX12_called_35 : decode cX12_called 35 = .ok (.ishl, 1) := by decide +kernel
theorem dX12_called_36 : decode cX12_called 36 = .ok (.goto 4, 3) := by decide +kernel
theorem dX12_called_39 : decode cX12_called 39 = .ok (.iconst 0, 1) := by decide +kernel
theorem dX12_called_40 : decode cX12_called 40 = .ok (.ior, 1) := by decide +kernel
theorem dX12_called_41 : decode cX12_called 41 = .ok (.istore_n 2, 1) := by decide +kernel
theorem dX12_called_42 : decode cX12_called 42 = .ok (.iinc 3 1, 3) := by decide +kernel
theorem dX12_called_45 : decode cX12_called 45 = .ok (.goto (-29), 3) := by decide +kernel
theorem dX12_called_48 : decode cX12_called 48 = .ok (.iload_n 2, 1) := by decide +kernel
theorem dX12_called_49 : decode cX12_called 49 = .ok (.ireturn, 1) := by decide +kernel
theorem cd_190 (G : ZG) (d : Nat) (K : ZKt) (F : ZFt) (hT : zt5 G.2.2.2) : CS G RX12 cX12_called 4 d K (some .int) [] (fun _ => []) 0 (bd_190 G.2.2.2 K F) := by
  unfold bd_190
  exact (CS.seq 5 (CS.decI_n (CX.pure (CE.callV (by decide) (CA.ref (CE.aload_n rfl dX12_called_0 zhd) CA.nil) zi_188 cv_X12_271 (fun _ => rfl) dX12_called_1 zhd)) rfl (by decide) dX12_called_4 zhd)
  (CS.seq 12 (CS.if1 (T := 10) (F := 12) (CD.pure (CC.icmp_eq_F (T := 10) (F := 12) (CE.iload_n rfl dX12_called_5 zhd) (CE.iconst kI_m1 dX12_called_6 zhd) dX12_called_7 rfl rfl)) (CS.retI (CX.pure (CE.iconst kI_m1 dX12_called_10 zhd)) dX12_called_11) zhd)
  (CS.seq 14 (CS.decI_n (CX.pure (CE.iconst kI_0 dX12_called_12 zhd)) rfl (by decide) dX12_called_13 zhd)
  (CS.seq 48 (CS.scope (CS.seq 16 (CS.decI_n (CX.pure (CE.iconst kI_0 dX12_called_14 zhd)) rfl (by decide) dX12_called_15 zhd)
  (CS.whl (T := 22) (F := 48) (p1 := 45) (CD.pure (CC.icmp_lt_F (T := 22) (F := 48) (CE.iload_n rfl dX12_called_16 zhd) (CE.bipush kB_6 dX12_called_17 zhd) dX12_called_19 rfl rfl))
  (CS.seq 42 (CS.setI_n (CX.pure (CE.ior (CE.iload_n rfl dX12_called_22 zhd) (CE.tern (T := 33) (F := 39) (p1 := 36) (q := 40) (CC.if_ne_F (T := 33) (F := 39) (CE.iand (CE.callV (by decide) (CA.ref (CE.aload_n rfl dX12_called_23 zhd) (CA.int (CE.iload_n rfl dX12_called_24 zhd) CA.nil)) zi_186 cv_X12_268 (fun _ => rfl) dX12_called_25 zhd) (CE.iload_n rfl dX12_called_28 zhd) dX12_called_29 zhd) dX12_called_30 rfl rfl) (CE.ishl (CE.iconst kI_1 dX12_called_33 zhd) (CE.iload_n rfl dX12_called_34 zhd) dX12_called_35 zhd) zex2 dX12_called_36 rfl zhd (CE.iconst kI_0 dX12_called_39 zhd)) dX12_called_40 zhd)) rfl (by decide) dX12_called_41 zhd)
  (CS.inc kI_1 (by decide) dX12_called_42 zhd)) dX12_called_45 rfl zhd)))
  (CS.retI (CX.pure (CE.iload_n rfl dX12_called_48 zhd)) dX12_called_49)))))
theorem dX12_isShop_0 : decode cX12_isShop 0 = .ok (.iload_n 0, 1) := by decide +kernel
theorem dX12_isShop_1 : decode cX12_isShop 1 = .ok (.iconst 0, 1) := by decide +kernel
theorem dX12_isShop_2 : decode cX12_isShop 2 = .ok (.iconst 3, 1) := by decide +kernel
theorem dX12_isShop_3 : decode cX12_isShop 3 = .ok (.invokestatic 142, 3) := by decide +kernel
theorem dX12_isShop_6 : decode cX12_isShop 6 = .ok (.ireturn, 1) := by decide +kernel
theorem cd_191 (G : ZG) (d : Nat) (K : ZKt) (F : ZFt) (hT : zt5 G.2.2.2) : CS G RX12 cX12_isShop 1 d K (some .boolean) [] (fun _ => []) 0 (bd_191 G.2.2.2 K F) := by
  unfold bd_191
  exact (CS.retZ (CX.pure (CE.callS (by decide) (CA.int (CE.iload_n rfl dX12_isShop_0 zhd) (CA.int (CE.iconst kI_0 dX12_isShop_1 zhd) (CA.int (CE.iconst kI_3 dX12_isShop_2 zhd) CA.nil))) zi_135 cs_X12_142 (fun _ => rfl) dX12_isShop_3 zhd)) dX12_isShop_6)
theorem dX12_hours_0 : decode cX12_hours 0 = .ok (.iload_n 1, 1) := by decide +kernel
theorem dX12_hours_1 : decode cX12_hours 1 = .ok (.invokestatic 275, 3) := by decide +kernel
theorem dX12_hours_4 : decode cX12_hours 4 = .ok (.ifCond .ne 6, 3) := by decide +kernel
theorem dX12_hours_7 : decode cX12_hours 7 = .ok (.bipush (-101), 2) := by decide +kernel
theorem dX12_hours_9 : decode cX12_hours 9 = .ok (.ireturn, 1) := by decide +kernel
theorem dX12_hours_10 : decode cX12_hours 10 = .ok (.iload_n 2, 1) := by decide +kernel
theorem dX12_hours_11 : decode cX12_hours 11 = .ok (.iconst 1, 1) := by decide +kernel
theorem dX12_hours_12 : decode cX12_hours 12 = .ok (.bipush 24, 2) := by decide +kernel
theorem dX12_hours_14 : decode cX12_hours 14 = .ok (.invokestatic 142, 3) := by decide +kernel
theorem dX12_hours_17 : decode cX12_hours 17 = .ok (.ifCond .ne 6, 3) := by decide +kernel
theorem dX12_hours_20 : decode cX12_hours 20 = .ok (.bipush (-102), 2) := by decide +kernel
theorem dX12_hours_22 : decode cX12_hours 22 = .ok (.ireturn, 1) := by decide +kernel
theorem dX12_hours_23 : decode cX12_hours 23 = .ok (.aload_n 0, 1) := by decide +kernel
theorem dX12_hours_24 : decode cX12_hours 24 = .ok (.getfield 68, 3) := by decide +kernel
theorem dX12_hours_27 : decode cX12_hours 27 = .ok (.iload_n 1, 1) := by decide +kernel
theorem dX12_hours_28 : decode cX12_hours 28 = .ok (.iaload, 1) := by decide +kernel
theorem dX12_hours_29 : decode cX12_hours 29 = .ok (.istore_n 3, 1) := by decide +kernel
theorem dX12_hours_30 : decode cX12_hours 30 = .ok (.aload_n 0, 1) := by decide +kernel
theorem dX12_hours_31 : decode cX12_hours 31 = .ok (.getfield 68, 3) := by decide +kernel
theorem dX12_hours_34 : decode cX12_hours 34 = .ok (.iload_n 1, 1) := by decide +kernel
theorem dX12_hours_35 : decode cX12_hours 35 = .ok (.iload_n 2, 1) := by decide +kernel
theorem dX12_hours_36 : decode cX12_hours 36 = .ok (.iastore, 1) := by decide +kernel
theorem dX12_hours_37 : decode cX12_hours 37 = .ok (.iload_n 3, 1) := by decide +kernel
theorem dX12_hours_38 : decode cX12_hours 38 = .ok (.ireturn, 1) := by decide +kernel
theorem cd_192 (G : ZG) (d : Nat) (K : ZKt) (F : ZFt) (hT : zt5 G.2.2.2) : CS G RX12 cX12_hours 4 d K (some .int) [] (fun _ => []) 0 (bd_192 G.2.2.2 K F) := by
  unfold bd_192
  exact (CS.seq 10 (CS.if1 (T := 7) (F := 10) (CD.pure (CC.not (CC.if_ne_T (T := 10) (F := 7) (CE.callS (by decide) (CA.int (CE.iload_n rfl dX12_hours_0 zhd) CA.nil) zi_191 cs_X12_275 (fun _ => rfl) dX12_hours_1 zhd) dX12_hours_4 rfl rfl))) (CS.retI (CX.pure (CE.bipush kB_m101 dX12_hours_7 zhd)) dX12_hours_9) zhd)
  (CS.seq 23 (CS.if1 (T := 20) (F := 23) (CD.pure (CC.not (CC.if_ne_T (T := 23) (F := 20) (CE.callS (by decide) (CA.int (CE.iload_n rfl dX12_hours_10 zhd) (CA.int (CE.iconst kI_1 dX12_hours_11 zhd) (CA.int (CE.bipush kB_24 dX12_hours_12 zhd) CA.nil))) zi_135 cs_X12_142 (fun _ => rfl) dX12_hours_14 zhd) dX12_hours_17 rfl rfl))) (CS.retI (CX.pure (CE.bipush kB_m102 dX12_hours_20 zhd)) dX12_hours_22) zhd)
  (CS.seq 30 (CS.decI_n (CX.pure (CE.aldI (CE.getR (CE.aload_n rfl dX12_hours_23 zhd) fs_X12_68 dX12_hours_24 zhd) (CE.iload_n rfl dX12_hours_27 zhd) (Or.inl ⟨rfl, dX12_hours_28⟩) zhd)) rfl (by decide) dX12_hours_29 zhd)
  (CS.seq 37 (CS.st (CE.getR (CE.aload_n rfl dX12_hours_30 zhd) fs_X12_68 dX12_hours_31 zhd) (CX.pure (CE.iload_n rfl dX12_hours_34 zhd)) (CX.pure (CE.iload_n rfl dX12_hours_35 zhd)) (Or.inl ⟨rfl, dX12_hours_36⟩) zhd)
  (CS.retI (CX.pure (CE.iload_n rfl dX12_hours_37 zhd)) dX12_hours_38)))))
theorem dX12_offer_0 : decode cX12_offer 0 = .ok (.iload_n 1, 1) := by decide +kernel
theorem dX12_offer_1 : decode cX12_offer 1 = .ok (.invokestatic 275, 3) := by decide +kernel
theorem dX12_offer_4 : decode cX12_offer 4 = .ok (.ifCond .eq 10, 3) := by decide +kernel
theorem dX12_offer_7 : decode cX12_offer 7 = .ok (.iload_n 2, 1) := by decide +kernel
theorem dX12_offer_8 : decode cX12_offer 8 = .ok (.invokestatic 150, 3) := by decide +kernel
theorem dX12_offer_11 : decode cX12_offer 11 = .ok (.ifCond .ne 6, 3) := by decide +kernel
theorem dX12_offer_14 : decode cX12_offer 14 = .ok (.bipush (-101), 2) := by decide +kernel
theorem dX12_offer_16 : decode cX12_offer 16 = .ok (.ireturn, 1) := by decide +kernel
theorem dX12_offer_17 : decode cX12_offer 17 = .ok (.iload_n 3, 1) := by decide +kernel
theorem dX12_offer_18 : decode cX12_offer 18 = .ok (.iconst 0, 1) := by decide +kernel
theorem dX12_offer_19 : decode cX12_offer 19 = .ok (.sipush 999, 3) := by decide +kernel
theorem dX12_offer_22 : decode cX12_offer 22 = .ok (.invokestatic 142, 3) := by decide +kernel
theorem dX12_offer_25 : decode cX12_offer 25 = .ok (.ifCond .eq 18, 3) := by decide +kernel
theorem dX12_offer_28 : decode cX12_offer 28 = .ok (.iload_n 3, 1) := by decide +kernel
theorem dX12_offer_29 : decode cX12_offer 29 = .ok (.ifCond .le 17, 3) := by decide +kernel
theorem dX12_offer_32 : decode cX12_offer 32 = .ok (.iload 4, 2) := by decide +kernel
theorem dX12_offer_34 : decode cX12_offer 34 = .ok (.iconst 1, 1) := by decide +kernel
theorem dX12_offer_35 : decode cX12_offer 35 = .ok (.bipush 99, 2) := by decide +kernel
theorem dX12_offer_37 : decode cX12_offer 37 = .ok (.invokestatic 142, 3) := by decide +kernel
theorem dX12_offer_40 : decode cX12_offer 40 = .ok (.ifCond .ne 6, 3) := by decide +kernel
theorem dX12_offer_43 : decode cX12_offer 43 = .ok (.bipush (-102), 2) := by decide +kernel
theorem dX12_offer_45 : decode cX12_offer 45 = .ok (.ireturn, 1) := by decide +kernel
theorem dX12_offer_46 : decode cX12_offer 46 = .ok (.aload_n 0, 1) := by decide +kernel
theorem dX12_offer_47 : decode cX12_offer 47 = .ok (.getfield 71, 3) := by decide +kernel
theorem dX12_offer_50 : decode cX12_offer 50 = .ok (.bipush 8, 2) := by decide +kernel
theorem dX12_offer_52 : decode cX12_offer 52 = .ok (.iload_n 1, 1) := by decide +kernel
theorem dX12_offer_53 : decode cX12_offer 53 = .ok (.imul, 1) := by decide +kernel
theorem dX12_offer_54 : decode cX12_offer 54 = .ok (.iload_n 2, 1) := by decide +kernel
theorem dX12_offer_55 : decode cX12_offer 55 = .ok (.iadd, 1) := by decide +kernel
theorem dX12_offer_56 : decode cX12_offer 56 = .ok (.iaload, 1) := by decide +kernel
theorem dX12_offer_57 : decode cX12_offer 57 = .ok (.istore 5, 2) := by decide +kernel
theorem dX12_offer_59 : decode cX12_offer 59 = .ok (.aload_n 0, 1) := by decide +kernel
theorem dX12_offer_60 : decode cX12_offer 60 = .ok (.getfield 71, 3) := by decide +kernel
theorem dX12_offer_63 : decode cX12_offer 63 = .ok (.bipush 8, 2) := by decide +kernel
theorem dX12_offer_65 : decode cX12_offer 65 = .ok (.iload_n 1, 1) := by decide +kernel
theorem dX12_offer_66 : decode cX12_offer 66 = .ok (.imul, 1) := by decide +kernel
theorem dX12_offer_67 : decode cX12_offer 67 = .ok (.iload_n 2, 1) := by decide +kernel
theorem dX12_offer_68 : decode cX12_offer 68 = .ok (.iadd, 1) := by decide +kernel
theorem dX12_offer_69 : decode cX12_offer 69 = .ok (.iload_n 3, 1) := by decide +kernel
theorem dX12_offer_70 : decode cX12_offer 70 = .ok (.iastore, 1) := by decide +kernel
theorem dX12_offer_71 : decode cX12_offer 71 = .ok (.aload_n 0, 1) := by decide +kernel
theorem dX12_offer_72 : decode cX12_offer 72 = .ok (.getfield 74, 3) := by decide +kernel
theorem dX12_offer_75 : decode cX12_offer 75 = .ok (.bipush 8, 2) := by decide +kernel
theorem dX12_offer_77 : decode cX12_offer 77 = .ok (.iload_n 1, 1) := by decide +kernel
theorem dX12_offer_78 : decode cX12_offer 78 = .ok (.imul, 1) := by decide +kernel
theorem dX12_offer_79 : decode cX12_offer 79 = .ok (.iload_n 2, 1) := by decide +kernel
theorem dX12_offer_80 : decode cX12_offer 80 = .ok (.iadd, 1) := by decide +kernel
theorem dX12_offer_81 : decode cX12_offer 81 = .ok (.iload_n 3, 1) := by decide +kernel
theorem dX12_offer_82 : decode cX12_offer 82 = .ok (.ifCond .le 8, 3) := by decide +kernel
theorem dX12_offer_85 : decode cX12_offer 85 = .ok (.iload 4, 2) := by decide +kernel
theorem dX12_offer_87 : decode cX12_offer 87 = .ok (.goto 4, 3) := by decide +kernel
theorem dX12_offer_90 : decode cX12_offer 90 = .ok (.iconst 0, 1) := by decide +kernel
theorem dX12_offer_91 : decode cX12_offer 91 = .ok (.iastore, 1) := by decide +kernel
theorem dX12_offer_92 : decode cX12_offer 92 = .ok (.iload 5, 2) := by decide +kernel
theorem dX12_offer_94 : decode cX12_offer 94 = .ok (.ireturn, 1) := by decide +kernel
theorem cd_193 (G : ZG) (d : Nat) (K : ZKt) (F : ZFt) (hT : zt5 G.2.2.2) : CS G RX12 cX12_offer 6 d K (some .int) [] (fun _ => []) 0 (bd_193 G.2.2.2 K F) := by
  unfold bd_193
  exact (CS.seq 17 (CS.if1 (T := 14) (F := 17) (CD.pure (CC.or (CC.not (CC.if_ne_F (T := 7) (F := 14) (CE.callS (by decide) (CA.int (CE.iload_n rfl dX12_offer_0 zhd) CA.nil) zi_191 cs_X12_275 (fun _ => rfl) dX12_offer_1 zhd) dX12_offer_4 rfl rfl)) (CC.not (CC.if_ne_T (T := 17) (F := 14) (CE.callS (by decide) (CA.int (CE.iload_n rfl dX12_offer_7 zhd) CA.nil) zi_136 cs_X12_150 (fun _ => rfl) dX12_offer_8 zhd) dX12_offer_11 rfl rfl)))) (CS.retI (CX.pure (CE.bipush kB_m101 dX12_offer_14 zhd)) dX12_offer_16) zhd)
  (CS.seq 46 (CS.if1 (T := 43) (F := 46) (CD.pure (CC.or (CC.not (CC.if_ne_F (T := 28) (F := 43) (CE.callS (by decide) (CA.int (CE.iload_n rfl dX12_offer_17 zhd) (CA.int (CE.iconst kI_0 dX12_offer_18 zhd) (CA.int (CE.sipush kS_999 dX12_offer_19 zhd) CA.nil))) zi_135 cs_X12_142 (fun _ => rfl) dX12_offer_22 zhd) dX12_offer_25 rfl rfl)) (CC.and (CC.if_gt_F (T := 32) (F := 46) (CE.iload_n rfl dX12_offer_28 zhd) dX12_offer_29 rfl rfl) (CC.not (CC.if_ne_T (T := 46) (F := 43) (CE.callS (by decide) (CA.int (CE.iload dX12_offer_32 zhd) (CA.int (CE.iconst kI_1 dX12_offer_34 zhd) (CA.int (CE.bipush kB_99 dX12_offer_35 zhd) CA.nil))) zi_135 cs_X12_142 (fun _ => rfl) dX12_offer_37 zhd) dX12_offer_40 rfl rfl))))) (CS.retI (CX.pure (CE.bipush kB_m102 dX12_offer_43 zhd)) dX12_offer_45) zhd)
  (CS.seq 59 (CS.decI (CX.pure (CE.aldI (CE.getR (CE.aload_n rfl dX12_offer_46 zhd) fs_X12_71 dX12_offer_47 zhd) (CE.iadd (CE.imul (CE.bipush kB_8 dX12_offer_50 zhd) (CE.iload_n rfl dX12_offer_52 zhd) dX12_offer_53 zhd) (CE.iload_n rfl dX12_offer_54 zhd) dX12_offer_55 zhd) (Or.inl ⟨rfl, dX12_offer_56⟩) zhd)) (by decide) dX12_offer_57 zhd)
  (CS.seq 71 (CS.st (CE.getR (CE.aload_n rfl dX12_offer_59 zhd) fs_X12_71 dX12_offer_60 zhd) (CX.pure (CE.iadd (CE.imul (CE.bipush kB_8 dX12_offer_63 zhd) (CE.iload_n rfl dX12_offer_65 zhd) dX12_offer_66 zhd) (CE.iload_n rfl dX12_offer_67 zhd) dX12_offer_68 zhd)) (CX.pure (CE.iload_n rfl dX12_offer_69 zhd)) (Or.inl ⟨rfl, dX12_offer_70⟩) zhd)
  (CS.seq 92 (CS.st (CE.getR (CE.aload_n rfl dX12_offer_71 zhd) fs_X12_74 dX12_offer_72 zhd) (CX.pure (CE.iadd (CE.imul (CE.bipush kB_8 dX12_offer_75 zhd) (CE.iload_n rfl dX12_offer_77 zhd) dX12_offer_78 zhd) (CE.iload_n rfl dX12_offer_79 zhd) dX12_offer_80 zhd)) (CX.pure (CE.tern (T := 85) (F := 90) (p1 := 87) (q := 91) (CC.if_gt_F (T := 85) (F := 90) (CE.iload_n rfl dX12_offer_81 zhd) dX12_offer_82 rfl rfl) (CE.iload dX12_offer_85 zhd) zex2 dX12_offer_87 rfl zhd (CE.iconst kI_0 dX12_offer_90 zhd))) (Or.inl ⟨rfl, dX12_offer_91⟩) zhd)
  (CS.retI (CX.pure (CE.iload dX12_offer_92 zhd)) dX12_offer_94))))))
theorem dX12_order_0 : decode cX12_order 0 = .ok (.iload_n 1, 1) := by decide +kernel
theorem dX12_order_1 : decode cX12_order 1 = .ok (.invokestatic 150, 3) := by decide +kernel
theorem dX12_order_4 : decode cX12_order 4 = .ok (.ifCond .ne 6, 3) := by decide +kernel
theorem dX12_order_7 : decode cX12_order 7 = .ok (.bipush (-101), 2) := by decide +kernel
theorem dX12_order_9 : decode cX12_order 9 = .ok (.ireturn, 1) := by decide +kernel
theorem dX12_order_10 : decode cX12_order 10 = .ok (.iload_n 2, 1) := by decide +kernel
theorem dX12_order_11 : decode cX12_order 11 = .ok (.iconst 1, 1) := by decide +kernel
theorem dX12_order_12 : decode cX12_order 12 = .ok (.bipush 60, 2) := by decide +kernel
theorem dX12_order_14 : decode cX12_order 14 = .ok (.invokestatic 142, 3) := by decide +kernel
theorem dX12_order_17 : decode cX12_order 17 = .ok (.ifCond .ne 6, 3) := by decide +kernel
theorem dX12_order_20 : decode cX12_order 20 = .ok (.bipush (-102), 2) := by decide +kernel
theorem dX12_order_22 : decode cX12_order 22 = .ok (.ireturn, 1) := by decide +kernel
theorem dX12_order_23 : decode cX12_order 23 = .ok (.aload_n 0, 1) := by decide +kernel
theorem dX12_order_24 : decode cX12_order 24 = .ok (.getfield 278, 3) := by decide +kernel
theorem dX12_order_27 : decode cX12_order 27 = .ok (.bipush 6, 2) := by decide +kernel
theorem dX12_order_29 : decode cX12_order 29 = .ok (.if_icmp .ne 6, 3) := by decide +kernel
theorem dX12_order_32 : decode cX12_order 32 = .ok (.bipush (-104), 2) := by decide +kernel
theorem dX12_order_34 : decode cX12_order 34 = .ok (.ireturn, 1) := by decide +kernel
theorem dX12_order_35 : decode cX12_order 35 = .ok (.aload_n 0, 1) := by decide +kernel
theorem dX12_order_36 : decode cX12_order 36 = .ok (.getfield 77, 3) := by decide +kernel
theorem dX12_order_39 : decode cX12_order 39 = .ok (.aload_n 0, 1) := by decide +kernel
theorem dX12_order_40 : decode cX12_order 40 = .ok (.getfield 278, 3) := by decide +kernel
theorem dX12_order_43 : decode cX12_order 43 = .ok (.iload_n 1, 1) := by decide +kernel
theorem dX12_order_44 : decode cX12_order 44 = .ok (.iastore, 1) := by decide +kernel
theorem dX12_order_45 : decode cX12_order 45 = .ok (.aload_n 0, 1) := by decide +kernel
theorem dX12_order_46 : decode cX12_order 46 = .ok (.getfield 80, 3) := by decide +kernel
theorem dX12_order_49 : decode cX12_order 49 = .ok (.aload_n 0, 1) := by decide +kernel
theorem dX12_order_50 : decode cX12_order 50 = .ok (.getfield 278, 3) := by decide +kernel
theorem dX12_order_53 : decode cX12_order 53 = .ok (.iload_n 2, 1) := by decide +kernel
theorem dX12_order_54 : decode cX12_order 54 = .ok (.iastore, 1) := by decide +kernel
theorem dX12_order_55 : decode cX12_order 55 = .ok (.aload_n 0, 1) := by decide +kernel
theorem dX12_order_56 : decode cX12_order 56 = .ok (.dup, 1) := by decide +kernel
theorem dX12_order_57 : decode cX12_order 57 = .ok (.getfield 278, 3) := by decide +kernel
theorem dX12_order_60 : decode cX12_order 60 = .ok (.iconst 1, 1) := by decide +kernel
theorem dX12_order_61 : decode cX12_order 61 = .ok (.iadd, 1) := by decide +kernel
theorem dX12_order_62 : decode cX12_order 62 = .ok (.putfield 278, 3) := by decide +kernel
theorem dX12_order_65 : decode cX12_order 65 = .ok (.aload_n 0, 1) := by decide +kernel
theorem dX12_order_66 : decode cX12_order 66 = .ok (.getfield 278, 3) := by decide +kernel
theorem dX12_order_69 : decode cX12_order 69 = .ok (.iconst 1, 1) := by decide +kernel
theorem dX12_order_70 : decode cX12_order 70 = .ok (.isub, 1) := by decide +kernel
theorem dX12_order_71 : decode cX12_order 71 = .ok (.ireturn, 1) := by decide +kernel
theorem cd_194 (G : ZG) (d : Nat) (K : ZKt) (F : ZFt) (hT : zt5 G.2.2.2) : CS G RX12 cX12_order 3 d K (some .int) [] (fun _ => []) 0 (bd_194 G.2.2.2 K F) := by
  unfold bd_194
  exact (CS.seq 10 (CS.if1 (T := 7) (F := 10) (CD.pure (CC.not (CC.if_ne_T (T := 10) (F := 7) (CE.callS (by decide) (CA.int (CE.iload_n rfl dX12_order_0 zhd) CA.nil) zi_136 cs_X12_150 (fun _ => rfl) dX12_order_1 zhd) dX12_order_4 rfl rfl))) (CS.retI (CX.pure (CE.bipush kB_m101 dX12_order_7 zhd)) dX12_order_9) zhd)
  (CS.seq 23 (CS.if1 (T := 20) (F := 23) (CD.pure (CC.not (CC.if_ne_T (T := 23) (F := 20) (CE.callS (by decide) (CA.int (CE.iload_n rfl dX12_order_10 zhd) (CA.int (CE.iconst kI_1 dX12_order_11 zhd) (CA.int (CE.bipush kB_60 dX12_order_12 zhd) CA.nil))) zi_135 cs_X12_142 (fun _ => rfl) dX12_order_14 zhd) dX12_order_17 rfl rfl))) (CS.retI (CX.pure (CE.bipush kB_m102 dX12_order_20 zhd)) dX12_order_22) zhd)
  (CS.seq 35 (CS.if1 (T := 32) (F := 35) (CD.pure (CC.icmp_eq_F (T := 32) (F := 35) (CE.getI (CE.aload_n rfl dX12_order_23 zhd) fs_X12_278 dX12_order_24 zhd) (CE.bipush kB_6 dX12_order_27 zhd) dX12_order_29 rfl rfl)) (CS.retI (CX.pure (CE.bipush kB_m104 dX12_order_32 zhd)) dX12_order_34) zhd)
  (CS.seq 45 (CS.st (CE.getR (CE.aload_n rfl dX12_order_35 zhd) fs_X12_77 dX12_order_36 zhd) (CX.pure (CE.getI (CE.aload_n rfl dX12_order_39 zhd) fs_X12_278 dX12_order_40 zhd)) (CX.pure (CE.iload_n rfl dX12_order_43 zhd)) (Or.inl ⟨rfl, dX12_order_44⟩) zhd)
  (CS.seq 55 (CS.st (CE.getR (CE.aload_n rfl dX12_order_45 zhd) fs_X12_80 dX12_order_46 zhd) (CX.pure (CE.getI (CE.aload_n rfl dX12_order_49 zhd) fs_X12_278 dX12_order_50 zhd)) (CX.pure (CE.iload_n rfl dX12_order_53 zhd)) (Or.inl ⟨rfl, dX12_order_54⟩) zhd)
  (CS.seq 65 (CS.upd (CE.aload_n rfl dX12_order_55 zhd) dX12_order_56 dX12_order_57 (CE.iconst kI_1 dX12_order_60 zhd) (Or.inl ⟨rfl, dX12_order_61⟩) fs_X12_278 fp_X12_278 dX12_order_62 zhd)
  (CS.retI (CX.pure (CE.isub (CE.getI (CE.aload_n rfl dX12_order_65 zhd) fs_X12_278 dX12_order_66 zhd) (CE.iconst kI_1 dX12_order_69 zhd) dX12_order_70 zhd)) dX12_order_71)))))))
theorem dX12_doneOn_0 : decode cX12_doneOn 0 = .ok (.aload_n 0, 1) := by decide +kernel
theorem dX12_doneOn_1 : decode cX12_doneOn 1 = .ok (.getfield 139, 3) := by decide +kernel
theorem dX12_doneOn_4 : decode cX12_doneOn 4 = .ok (.iload_n 1, 1) := by decide +kernel
theorem dX12_doneOn_5 : decode cX12_doneOn 5 = .ok (.iaload, 1) := by decide +kernel
theorem dX12_doneOn_6 : decode cX12_doneOn 6 = .ok (.istore_n 2, 1) := by decide +kernel
theorem dX12_doneOn_7 : decode cX12_doneOn 7 = .ok (.iconst 0, 1) := by decide +kernel
theorem dX12_doneOn_8 : decode cX12_doneOn 8 = .ok (.istore_n 3, 1) := by decide +kernel
theorem dX12_doneOn_9 : decode cX12_doneOn 9 = .ok (.iconst 0, 1) := by decide +kernel
theorem dX12_doneOn_10 : decode cX12_doneOn 10 = .ok (.istore 4, 2) := by decide +kernel
theorem dX12_doneOn_12 : decode cX12_doneOn 12 = .ok (.iload 4, 2) := by decide +kernel
theorem dX12_doneOn_14 : decode cX12_doneOn 14 = .ok (.aload_n 0, 1) := by decide +kernel
theorem dX12_doneOn_15 : decode cX12_doneOn 15 = .ok (.getfield 278, 3) := by decide +kernel
theorem dX12_doneOn_18 : decode cX12_doneOn 18 = .ok (.if_icmp .ge 94, 3) := by decide +kernel
theorem dX12_doneOn_21 : decode cX12_doneOn 21 = .ok (.aload_n 0, 1) := by decide +kernel
theorem dX12_doneOn_22 : decode cX12_doneOn 22 = .ok (.getfield 80, 3) := by decide +kernel
theorem dX12_doneOn_25 : decode cX12_doneOn 25 = .ok (.iload 4, 2) := by decide +kernel
theorem dX12_doneOn_27 : decode cX12_doneOn 27 = .ok (.iaload, 1) := by decide +kernel
theorem dX12_doneOn_28 : decode cX12_doneOn 28 = .ok (.aload_n 0, 1) := by decide +kernel
theorem dX12_doneOn_29 : decode cX12_doneOn 29 = .ok (.getfield 80, 3) := by decide +kernel
theorem dX12_doneOn_32 : decode cX12_doneOn 32 = .ok (.iload_n 1, 1) := by decide +kernel
theorem dX12_doneOn_33 : decode cX12_doneOn 33 = .ok (.iaload, 1) := by decide +kernel
theorem dX12_doneOn_34 : decode cX12_doneOn 34 = .ok (.if_icmp .lt 25, 3) := by decide +kernel
theorem dX12_doneOn_37 : decode cX12_doneOn 37 = .ok (.aload_n 0, 1) := by decide +kernel
theorem dX12_doneOn_38 : decode cX12_doneOn 38 = .ok (.getfield 80, 3) := by decide +kernel
theorem dX12_doneOn_41 : decode cX12_doneOn 41 = .ok (.iload 4, 2) := by decide +kernel
theorem dX12_doneOn_43 : decode cX12_doneOn 43 = .ok (.iaload, 1) := by decide +kernel
theorem dX12_doneOn_44 : decode cX12_doneOn 44 = .ok (.aload_n 0, 1) := by decide +kernel
theorem dX12_doneOn_45 : decode cX12_doneOn 45 = .ok (.getfield 80, 3) := by decide +kernel
theorem dX12_doneOn_48 : decode cX12_doneOn 48 = .ok (.iload_n 1, 1) := by decide +kernel
theorem dX12_doneOn_49 : decode cX12_doneOn 49 = .ok (.iaload, 1) := by decide +kernel
theorem dX12_doneOn_50 : decode cX12_doneOn 50 = .ok (.if_icmp .ne 13, 3) := by decide +kernel
theorem dX12_doneOn_53 : decode cX12_doneOn 53 = .ok (.iload 4, 2) := by decide +kernel
theorem dX12_doneOn_55 : decode cX12_doneOn 55 = .ok (.iload_n 1, 1) := by decide +kernel
theorem dX12_doneOn_56 : decode cX12_doneOn 56 = .ok (.if_icmp .gt 7, 3) := by decide +kernel
theorem dX12_doneOn_59 : decode cX12_doneOn 59 = .ok (.iconst 1, 1) := by decide +kernel
theorem dX12_doneOn_60 : decode cX12_doneOn 60 = .ok (.goto 4, 3) := by decide +kernel
theorem dX12_doneOn_63 : decode cX12_doneOn 63 = .ok (.iconst 0, 1) := by decide +kernel
theorem dX12_doneOn_64 : decode cX12_doneOn 64 = .ok (.istore 5, 2) := by decide +kernel
theorem dX12_doneOn_66 : decode cX12_doneOn 66 = .ok (.iload_n 3, 1) := by decide +kernel
theorem dX12_doneOn_67 : decode cX12_doneOn 67 = .ok (.aload_n 0, 1) := by decide +kernel
theorem dX12_doneOn_68 : decode cX12_doneOn 68 = .ok (.getfield 139, 3) := by decide +kernel
theorem dX12_doneOn_71 : decode cX12_doneOn 71 = .ok (.iload 4, 2) := by decide +kernel
theorem dX12_doneOn_73 : decode cX12_doneOn 73 = .ok (.iaload, 1) := by decide +kernel
theorem dX12_doneOn_74 : decode cX12_doneOn 74 = .ok (.iload_n 2, 1) := by decide +kernel
theorem dX12_doneOn_75 : decode cX12_doneOn 75 = .ok (.if_icmp .ne 28, 3) := by decide +kernel
theorem dX12_doneOn_78 : decode cX12_doneOn 78 = .ok (.iload 5, 2) := by decide +kernel
theorem dX12_doneOn_80 : decode cX12_doneOn 80 = .ok (.ifCond .eq 23, 3) := by decide +kernel
theorem dX12_doneOn_83 : decode cX12_doneOn 83 = .ok (.aload_n 0, 1) := by decide +kernel
theorem dX12_doneOn_84 : decode cX12_doneOn 84 = .ok (.getfield 74, 3) := by decide +kernel
theorem dX12_doneOn_87 : decode cX12_doneOn 87 = .ok (.bipush 8, 2) := by decide +kernel
theorem dX12_doneOn_89 : decode cX12_doneOn 89 = .ok (.iload_n 2, 1) := by decide +kernel
theorem dX12_doneOn_90 : decode cX12_doneOn 90 = .ok (.imul, 1) := by decide +kernel
theorem dX12_doneOn_91 : decode cX12_doneOn 91 = .ok (.aload_n 0, 1) := by decide +kernel
theorem dX12_doneOn_92 : decode cX12_doneOn 92 = .ok (.getfield 77, 3) := by decide +kernel
theorem dX12_doneOn_95 : decode cX12_doneOn 95 = .ok (.iload 4, 2) := by decide +kernel
theorem dX12_doneOn_97 : decode cX12_doneOn 97 = .ok (.iaload, 1) := by decide +kernel
theorem dX12_doneOn_98 : decode cX12_doneOn 98 = .ok (.iadd, 1) := by decide +kernel
theorem dX12_doneOn_99 : decode cX12_doneOn 99 = .ok (.iaload, 1) := by decide +kernel
theorem dX12_doneOn_100 : decode cX12_doneOn 100 = .ok (.goto 4, 3) := by decide +kernel
theorem dX12_doneOn_103 : decode cX12_doneOn 103 = .ok (.iconst 0, 1) := by decide +kernel
theorem dX12_doneOn_104 : decode cX12_doneOn 104 = .ok (.iadd, 1) := by decide +kernel
theorem dX12_doneOn_105 : decode cX12_doneOn 105 = .ok (.istore_n 3, 1) := by decide +kernel
theorem dX12_doneOn_106 : decode cX12_doneOn 106 = .ok (.iinc 4 1, 3) := by decide +kernel
theorem dX12_doneOn_109 : decode cX12_doneOn 109 = .ok (.goto (-97), 3) := by decide +kernel
theorem dX12_doneOn_112 : decode cX12_doneOn 112 = .ok (.iload_n 3, 1) := by decide +kernel
theorem dX12_doneOn_113 : decode cX12_doneOn 113 = .ok (.aload_n 0, 1) := by decide +kernel
theorem dX12_doneOn_114 : decode cX12_doneOn 114 = .ok (.getfield 68, 3) := by decide +kernel
theorem dX12_doneOn_117 : decode cX12_doneOn 117 = .ok (.iload_n 2, 1) := by decide +kernel
theorem dX12_doneOn_118 : decode cX12_doneOn 118 = .ok (.iaload, 1) := by decide +kernel
theorem dX12_doneOn_119 : decode cX12_doneOn 119 = .ok (.iadd, 1) := by decide +kernel
theorem dX12_doneOn_120 : decode cX12_doneOn 120 = .ok (.iconst 1, 1) := by decide +kernel
theorem dX12_doneOn_121 : decode cX12_doneOn 121 = .ok (.isub, 1) := by decide +kernel
theorem dX12_doneOn_122 : decode cX12_doneOn 122 = .ok (.aload_n 0, 1) := by decide +kernel
theorem dX12_doneOn_123 : decode cX12_doneOn 123 = .ok (.getfield 68, 3) := by decide +kernel
theorem dX12_doneOn_126 : decode cX12_doneOn 126 = .ok (.iload_n 2, 1) := by decide +kernel
theorem dX12_doneOn_127 : decode cX12_doneOn 127 = .ok (.iaload, 1) := by decide +kernel
theorem dX12_doneOn_128 : decode cX12_doneOn 128 = .ok (.idiv, 1) := by decide +kernel
theorem dX12_doneOn_129 : decode cX12_doneOn 129 = .ok (.ireturn, 1) := by decide +kernel
theorem cd_195 (G : ZG) (d : Nat) (K : ZKt) (F : ZFt) (hT : zt5 G.2.2.2) : CS G RX12 cX12_doneOn 6 d K (some .int) [] (fun _ => []) 0 (bd_195 G.2.2.2 K F) := by
  unfold bd_195
  exact (CS.seq 7 (CS.decI_n (CX.pure (CE.aldI (CE.getR (CE.aload_n rfl dX12_doneOn_0 zhd) fs_X12_139 dX12_doneOn_1 zhd) (CE.iload_n rfl dX12_doneOn_4 zhd) (Or.inl ⟨rfl, dX12_doneOn_5⟩) zhd)) rfl (by decide) dX12_doneOn_6 zhd)
  (CS.seq 9 (CS.decI_n (CX.pure (CE.iconst kI_0 dX12_doneOn_7 zhd)) rfl (by decide) dX12_doneOn_8 zhd)
  (CS.seq 112 (CS.scope (CS.seq 12 (CS.decI (CX.pure (CE.iconst kI_0 dX12_doneOn_9 zhd)) (by decide) dX12_doneOn_10 zhd)
  (CS.whl (T := 21) (F := 112) (p1 := 109) (CD.pure (CC.icmp_lt_F (T := 21) (F := 112) (CE.iload dX12_doneOn_12 zhd) (CE.getI (CE.aload_n rfl dX12_doneOn_14 zhd) fs_X12_278 dX12_doneOn_15 zhd) dX12_doneOn_18 rfl rfl))
  (CS.seq 106 (CS.scope (CS.seq 66 (CS.decI (CX.pure (CE.bool (T := 59) (F := 63) (q := 64) (CC.or (CC.icmp_lt_T (T := 59) (F := 37) (CE.aldI (CE.getR (CE.aload_n rfl dX12_doneOn_21 zhd) fs_X12_80 dX12_doneOn_22 zhd) (CE.iload dX12_doneOn_25 zhd) (Or.inl ⟨rfl, dX12_doneOn_27⟩) zhd) (CE.aldI (CE.getR (CE.aload_n rfl dX12_doneOn_28 zhd) fs_X12_80 dX12_doneOn_29 zhd) (CE.iload_n rfl dX12_doneOn_32 zhd) (Or.inl ⟨rfl, dX12_doneOn_33⟩) zhd) dX12_doneOn_34 rfl rfl) (CC.and (CC.icmp_eq_F (T := 53) (F := 63) (CE.aldI (CE.getR (CE.aload_n rfl dX12_doneOn_37 zhd) fs_X12_80 dX12_doneOn_38 zhd) (CE.iload dX12_doneOn_41 zhd) (Or.inl ⟨rfl, dX12_doneOn_43⟩) zhd) (CE.aldI (CE.getR (CE.aload_n rfl dX12_doneOn_44 zhd) fs_X12_80 dX12_doneOn_45 zhd) (CE.iload_n rfl dX12_doneOn_48 zhd) (Or.inl ⟨rfl, dX12_doneOn_49⟩) zhd) dX12_doneOn_50 rfl rfl) (CC.icmp_le_F (T := 59) (F := 63) (CE.iload dX12_doneOn_53 zhd) (CE.iload_n rfl dX12_doneOn_55 zhd) dX12_doneOn_56 rfl rfl))) dX12_doneOn_59 rfl dX12_doneOn_60 rfl zhd dX12_doneOn_63 zhd)) (by decide) dX12_doneOn_64 zhd)
  (CS.setI_n (CX.pure (CE.iadd (CE.iload_n rfl dX12_doneOn_66 zhd) (CE.tern (T := 83) (F := 103) (p1 := 100) (q := 104) (CC.and (CC.icmp_eq_F (T := 78) (F := 103) (CE.aldI (CE.getR (CE.aload_n rfl dX12_doneOn_67 zhd) fs_X12_139 dX12_doneOn_68 zhd) (CE.iload dX12_doneOn_71 zhd) (Or.inl ⟨rfl, dX12_doneOn_73⟩) zhd) (CE.iload_n rfl dX12_doneOn_74 zhd) dX12_doneOn_75 rfl rfl) (CC.if_ne_F (T := 83) (F := 103) (CE.iload dX12_doneOn_78 zhd) dX12_doneOn_80 rfl rfl)) (CE.aldI (CE.getR (CE.aload_n rfl dX12_doneOn_83 zhd) fs_X12_74 dX12_doneOn_84 zhd) (CE.iadd (CE.imul (CE.bipush kB_8 dX12_doneOn_87 zhd) (CE.iload_n rfl dX12_doneOn_89 zhd) dX12_doneOn_90 zhd) (CE.aldI (CE.getR (CE.aload_n rfl dX12_doneOn_91 zhd) fs_X12_77 dX12_doneOn_92 zhd) (CE.iload dX12_doneOn_95 zhd) (Or.inl ⟨rfl, dX12_doneOn_97⟩) zhd) dX12_doneOn_98 zhd) (Or.inl ⟨rfl, dX12_doneOn_99⟩) zhd) zex2 dX12_doneOn_100 rfl zhd (CE.iconst kI_0 dX12_doneOn_103 zhd)) dX12_doneOn_104 zhd)) rfl (by decide) dX12_doneOn_105 zhd)))
  (CS.inc kI_1 (by decide) dX12_doneOn_106 zhd)) dX12_doneOn_109 rfl zhd)))
  (CS.retI (CX.pure (CE.idiv (CE.isub (CE.iadd (CE.iload_n rfl dX12_doneOn_112 zhd) (CE.aldI (CE.getR (CE.aload_n rfl dX12_doneOn_113 zhd) fs_X12_68 dX12_doneOn_114 zhd) (CE.iload_n rfl dX12_doneOn_117 zhd) (Or.inl ⟨rfl, dX12_doneOn_118⟩) zhd) dX12_doneOn_119 zhd) (CE.iconst kI_1 dX12_doneOn_120 zhd) dX12_doneOn_121 zhd) (CE.aldI (CE.getR (CE.aload_n rfl dX12_doneOn_122 zhd) fs_X12_68 dX12_doneOn_123 zhd) (CE.iload_n rfl dX12_doneOn_126 zhd) (Or.inl ⟨rfl, dX12_doneOn_127⟩) zhd) dX12_doneOn_128 zhd)) dX12_doneOn_129))))
theorem dX12_layWay_0 : decode cX12_layWay 0 = .ok (.iconst 0, 1) := by decide +kernel
theorem dX12_layWay_1 : decode cX12_layWay 1 = .ok (.istore_n 2, 1) := by decide +kernel
theorem dX12_layWay_2 : decode cX12_layWay 2 = .ok (.iload_n 2, 1) := by decide +kernel
theorem dX12_layWay_3 : decode cX12_layWay 3 = .ok (.aload_n 0, 1) := by decide +kernel
theorem dX12_layWay_4 : decode cX12_layWay 4 = .ok (.getfield 278, 3) := by decide +kernel
theorem dX12_layWay_7 : decode cX12_layWay 7 = .ok (.if_icmp .ge 29, 3) := by decide +kernel
theorem dX12_layWay_10 : decode cX12_layWay 10 = .ok (.aload_n 0, 1) := by decide +kernel
theorem dX12_layWay_11 : decode cX12_layWay 11 = .ok (.getfield 139, 3) := by decide +kernel
theorem dX12_layWay_14 : decode cX12_layWay 14 = .ok (.iload_n 2, 1) := by decide +kernel
theorem dX12_layWay_15 : decode cX12_layWay 15 = .ok (.iload_n 1, 1) := by decide +kernel
theorem dX12_layWay_16 : decode cX12_layWay 16 = .ok (.iconst 2, 1) := by decide +kernel
theorem dX12_layWay_17 : decode cX12_layWay 17 = .ok (.aload_n 0, 1) := by decide +kernel
theorem dX12_layWay_18 : decode cX12_layWay 18 = .ok (.getfield 278, 3) := by decide +kernel
theorem dX12_layWay_21 : decode cX12_layWay 21 = .ok (.iconst 1, 1) := by decide +kernel
theorem dX12_layWay_22 : decode cX12_layWay 22 = .ok (.isub, 1) := by decide +kernel
theorem dX12_layWay_23 : decode cX12_layWay 23 = .ok (.iload_n 2, 1) := by decide +kernel
theorem dX12_layWay_24 : decode cX12_layWay 24 = .ok (.isub, 1) := by decide +kernel
theorem dX12_layWay_25 : decode cX12_layWay 25 = .ok (.imul, 1) := by decide +kernel
theorem dX12_layWay_26 : decode cX12_layWay 26 = .ok (.ishr, 1) := by decide +kernel
theorem dX12_layWay_27 : decode cX12_layWay 27 = .ok (.iconst 3, 1) := by decide +kernel
theorem dX12_layWay_28 : decode cX12_layWay 28 = .ok (.iand, 1) := by decide +kernel
theorem dX12_layWay_29 : decode cX12_layWay 29 = .ok (.iastore, 1) := by decide +kernel
theorem dX12_layWay_30 : decode cX12_layWay 30 = .ok (.iinc 2 1, 3) := by decide +kernel
theorem dX12_layWay_33 : decode cX12_layWay 33 = .ok (.goto (-31), 3) := by decide +kernel
theorem dX12_layWay_36 : decode cX12_layWay 36 = .ok (.return_, 1) := by decide +kernel
theorem cd_196 (G : ZG) (d : Nat) (K : ZKt) (F : ZFt) (hT : zt5 G.2.2.2) : CS G RX12 cX12_layWay 3 d K (none) [] (fun _ => []) 0 (bd_196 G.2.2.2 K F) := by
  unfold bd_196
  exact (CS.seq 36 (CS.scope (CS.seq 2 (CS.decI_n (CX.pure (CE.iconst kI_0 dX12_layWay_0 zhd)) rfl (by decide) dX12_layWay_1 zhd)
  (CS.whl (T := 10) (F := 36) (p1 := 33) (CD.pure (CC.icmp_lt_F (T := 10) (F := 36) (CE.iload_n rfl dX12_layWay_2 zhd) (CE.getI (CE.aload_n rfl dX12_layWay_3 zhd) fs_X12_278 dX12_layWay_4 zhd) dX12_layWay_7 rfl rfl))
  (CS.seq 30 (CS.st (CE.getR (CE.aload_n rfl dX12_layWay_10 zhd) fs_X12_139 dX12_layWay_11 zhd) (CX.pure (CE.iload_n rfl dX12_layWay_14 zhd)) (CX.pure (CE.iand (CE.ishr (CE.iload_n rfl dX12_layWay_15 zhd) (CE.imul (CE.iconst kI_2 dX12_layWay_16 zhd) (CE.isub (CE.isub (CE.getI (CE.aload_n rfl dX12_layWay_17 zhd) fs_X12_278 dX12_layWay_18 zhd) (CE.iconst kI_1 dX12_layWay_21 zhd) dX12_layWay_22 zhd) (CE.iload_n rfl dX12_layWay_23 zhd) dX12_layWay_24 zhd) dX12_layWay_25 zhd) dX12_layWay_26 zhd) (CE.iconst kI_3 dX12_layWay_27 zhd) dX12_layWay_28 zhd)) (Or.inl ⟨rfl, dX12_layWay_29⟩) zhd)
  (CS.inc kI_1 (by decide) dX12_layWay_30 zhd)) dX12_layWay_33 rfl zhd)))
  (CS.retV dX12_layWay_36))
theorem dX12_wayCost_0 : decode cX12_wayCost 0 = .ok (.iconst 0, 1) := by decide +kernel
theorem dX12_wayCost_1 : decode cX12_wayCost 1 = .ok (.istore_n 2, 1) := by decide +kernel
theorem dX12_wayCost_2 : decode cX12_wayCost 2 = .ok (.iconst 0, 1) := by decide +kernel
theorem dX12_wayCost_3 : decode cX12_wayCost 3 = .ok (.istore_n 3, 1) := by decide +kernel
theorem dX12_wayCost_4 : decode cX12_wayCost 4 = .ok (.iload_n 3, 1) := by decide +kernel
theorem dX12_wayCost_5 : decode cX12_wayCost 5 = .ok (.aload_n 0, 1) := by decide +kernel
theorem dX12_wayCost_6 : decode cX12_wayCost 6 = .ok (.getfield 278, 3) := by decide +kernel
theorem dX12_wayCost_9 : decode cX12_wayCost 9 = .ok (.if_icmp .ge 54, 3) := by decide +kernel
theorem dX12_wayCost_12 : decode cX12_wayCost 12 = .ok (.aload_n 0, 1) := by decide +kernel
theorem dX12_wayCost_13 : decode cX12_wayCost 13 = .ok (.getfield 71, 3) := by decide +kernel
theorem dX12_wayCost_16 : decode cX12_wayCost 16 = .ok (.bipush 8, 2) := by decide +kernel
theorem dX12_wayCost_18 : decode cX12_wayCost 18 = .ok (.aload_n 0, 1) := by decide +kernel
theorem dX12_wayCost_19 : decode cX12_wayCost 19 = .ok (.getfield 139, 3) := by decide +kernel
theorem dX12_wayCost_22 : decode cX12_wayCost 22 = .ok (.iload_n 3, 1) := by decide +kernel
theorem dX12_wayCost_23 : decode cX12_wayCost 23 = .ok (.iaload, 1) := by decide +kernel
theorem dX12_wayCost_24 : decode cX12_wayCost 24 = .ok (.imul, 1) := by decide +kernel
theorem dX12_wayCost_25 : decode cX12_wayCost 25 = .ok (.aload_n 0, 1) := by decide +kernel
theorem dX12_wayCost_26 : decode cX12_wayCost 26 = .ok (.getfield 77, 3) := by decide +kernel
theorem dX12_wayCost_29 : decode cX12_wayCost 29 = .ok (.iload_n 3, 1) := by decide +kernel
theorem dX12_wayCost_30 : decode cX12_wayCost 30 = .ok (.iaload, 1) := by decide +kernel
theorem dX12_wayCost_31 : decode cX12_wayCost 31 = .ok (.iadd, 1) := by decide +kernel
theorem dX12_wayCost_32 : decode cX12_wayCost 32 = .ok (.iaload, 1) := by decide +kernel
theorem dX12_wayCost_33 : decode cX12_wayCost 33 = .ok (.istore 4, 2) := by decide +kernel
theorem dX12_wayCost_35 : decode cX12_wayCost 35 = .ok (.aload_n 0, 1) := by decide +kernel
theorem dX12_wayCost_36 : decode cX12_wayCost 36 = .ok (.getfield 139, 3) := by decide +kernel
theorem dX12_wayCost_39 : decode cX12_wayCost 39 = .ok (.iload_n 3, 1) := by decide +kernel
theorem dX12_wayCost_40 : decode cX12_wayCost 40 = .ok (.iaload, 1) := by decide +kernel
theorem dX12_wayCost_41 : decode cX12_wayCost 41 = .ok (.iload_n 1, 1) := by decide +kernel
theorem dX12_wayCost_42 : decode cX12_wayCost 42 = .ok (.if_icmp .eq 8, 3) := by decide +kernel
theorem dX12_wayCost_45 : decode cX12_wayCost 45 = .ok (.iload 4, 2) := by decide +kernel
theorem dX12_wayCost_47 : decode cX12_wayCost 47 = .ok (.ifCond .ne 5, 3) := by decide +kernel
theorem dX12_wayCost_50 : decode cX12_wayCost 50 = .ok (.iconst (-1), 1) := by decide +kernel
theorem dX12_wayCost_51 : decode cX12_wayCost 51 = .ok (.ireturn, 1) := by decide +kernel
theorem dX12_wayCost_52 : decode cX12_wayCost 52 = .ok (.iload_n 2, 1) := by decide +kernel
theorem dX12_wayCost_53 : decode cX12_wayCost 53 = .ok (.iload 4, 2) := by decide +kernel
theorem dX12_wayCost_55 : decode cX12_wayCost 55 = .ok (.iadd, 1) := by decide +kernel
theorem dX12_wayCost_56 : decode cX12_wayCost 56 = .ok (.istore_n 2, 1) := by decide +kernel
theorem dX12_wayCost_57 : decode cX12_wayCost 57 = .ok (.iinc 3 1, 3) := by decide +kernel
theorem dX12_wayCost_60 : decode cX12_wayCost 60 = .ok (.goto (-56), 3) := by decide +kernel
theorem dX12_wayCost_63 : decode cX12_wayCost 63 = .ok (.iconst 0, 1) := by decide +kernel
theorem dX12_wayCost_64 : decode cX12_wayCost 64 = .ok (.istore_n 3, 1) := by decide +kernel
theorem dX12_wayCost_65 : decode cX12_wayCost 65 = .ok (.iload_n 3, 1) := by decide +kernel
theorem dX12_wayCost_66 : decode cX12_wayCost 66 = .ok (.aload_n 0, 1) := by decide +kernel
theorem dX12_wayCost_67 : decode cX12_wayCost 67 = .ok (.getfield 278, 3) := by decide +kernel
theorem dX12_wayCost_70 : decode cX12_wayCost 70 = .ok (.if_icmp .ge 25, 3) := by decide +kernel
theorem dX12_wayCost_73 : decode cX12_wayCost 73 = .ok (.aload_n 0, 1) := by decide +kernel
theorem dX12_wayCost_74 : decode cX12_wayCost 74 = .ok (.iload_n 3, 1) := by decide +kernel
theorem dX12_wayCost_75 : decode cX12_wayCost 75 = .ok (.invokevirtual 281, 3) := by decide +kernel
theorem dX12_wayCost_78 : decode cX12_wayCost 78 = .ok (.aload_n 0, 1) := by decide +kernel
theorem dX12_wayCost_79 : decode cX12_wayCost 79 = .ok (.getfield 80, 3) := by decide +kernel
theorem dX12_wayCost_82 : decode cX12_wayCost 82 = .ok (.iload_n 3, 1) := by decide +kernel
theorem dX12_wayCost_83 : decode cX12_wayCost 83 = .ok (.iaload, 1) := by decide +kernel
theorem dX12_wayCost_84 : decode cX12_wayCost 84 = .ok (.if_icmp .le 5, 3) := by decide +kernel
theorem dX12_wayCost_87 : decode cX12_wayCost 87 = .ok (.iconst (-1), 1) := by decide +kernel
theorem dX12_wayCost_88 : decode cX12_wayCost 88 = .ok (.ireturn, 1) := by decide +kernel
theorem dX12_wayCost_89 : decode cX12_wayCost 89 = .ok (.iinc 3 1, 3) := by decide +kernel
theorem dX12_wayCost_92 : decode cX12_wayCost 92 = .ok (.goto (-27), 3) := by decide +kernel
theorem dX12_wayCost_95 : decode cX12_wayCost 95 = .ok (.iload_n 2, 1) := by decide +kernel
theorem dX12_wayCost_96 : decode cX12_wayCost 96 = .ok (.ireturn, 1) := by decide +kernel
theorem cd_197 (G : ZG) (d : Nat) (K : ZKt) (F : ZFt) (hT : zt5 G.2.2.2) : CS G RX12 cX12_wayCost 5 d K (some .int) [] (fun _ => []) 0 (bd_197 G.2.2.2 K F) := by
  unfold bd_197
  exact (CS.seq 2 (CS.decI_n (CX.pure (CE.iconst kI_0 dX12_wayCost_0 zhd)) rfl (by decide) dX12_wayCost_1 zhd)
  (CS.seq 63 (CS.scope (CS.seq 4 (CS.decI_n (CX.pure (CE.iconst kI_0 dX12_wayCost_2 zhd)) rfl (by decide) dX12_wayCost_3 zhd)
  (CS.whl (T := 12) (F := 63) (p1 := 60) (CD.pure (CC.icmp_lt_F (T := 12) (F := 63) (CE.iload_n rfl dX12_wayCost_4 zhd) (CE.getI (CE.aload_n rfl dX12_wayCost_5 zhd) fs_X12_278 dX12_wayCost_6 zhd) dX12_wayCost_9 rfl rfl))
  (CS.seq 57 (CS.scope (CS.seq 35 (CS.decI (CX.pure (CE.aldI (CE.getR (CE.aload_n rfl dX12_wayCost_12 zhd) fs_X12_71 dX12_wayCost_13 zhd) (CE.iadd (CE.imul (CE.bipush kB_8 dX12_wayCost_16 zhd) (CE.aldI (CE.getR (CE.aload_n rfl dX12_wayCost_18 zhd) fs_X12_139 dX12_wayCost_19 zhd) (CE.iload_n rfl dX12_wayCost_22 zhd) (Or.inl ⟨rfl, dX12_wayCost_23⟩) zhd) dX12_wayCost_24 zhd) (CE.aldI (CE.getR (CE.aload_n rfl dX12_wayCost_25 zhd) fs_X12_77 dX12_wayCost_26 zhd) (CE.iload_n rfl dX12_wayCost_29 zhd) (Or.inl ⟨rfl, dX12_wayCost_30⟩) zhd) dX12_wayCost_31 zhd) (Or.inl ⟨rfl, dX12_wayCost_32⟩) zhd)) (by decide) dX12_wayCost_33 zhd)
  (CS.seq 52 (CS.if1 (T := 50) (F := 52) (CD.pure (CC.or (CC.icmp_eq_T (T := 50) (F := 45) (CE.aldI (CE.getR (CE.aload_n rfl dX12_wayCost_35 zhd) fs_X12_139 dX12_wayCost_36 zhd) (CE.iload_n rfl dX12_wayCost_39 zhd) (Or.inl ⟨rfl, dX12_wayCost_40⟩) zhd) (CE.iload_n rfl dX12_wayCost_41 zhd) dX12_wayCost_42 rfl rfl) (CC.if_eq_F (T := 50) (F := 52) (CE.iload dX12_wayCost_45 zhd) dX12_wayCost_47 rfl rfl))) (CS.retI (CX.pure (CE.iconst kI_m1 dX12_wayCost_50 zhd)) dX12_wayCost_51) zhd)
  (CS.setI_n (CX.pure (CE.iadd (CE.iload_n rfl dX12_wayCost_52 zhd) (CE.iload dX12_wayCost_53 zhd) dX12_wayCost_55 zhd)) rfl (by decide) dX12_wayCost_56 zhd))))
  (CS.inc kI_1 (by decide) dX12_wayCost_57 zhd)) dX12_wayCost_60 rfl zhd)))
  (CS.seq 95 (CS.scope (CS.seq 65 (CS.decI_n (CX.pure (CE.iconst kI_0 dX12_wayCost_63 zhd)) rfl (by decide) dX12_wayCost_64 zhd)
  (CS.whl (T := 73) (F := 95) (p1 := 92) (CD.pure (CC.icmp_lt_F (T := 73) (F := 95) (CE.iload_n rfl dX12_wayCost_65 zhd) (CE.getI (CE.aload_n rfl dX12_wayCost_66 zhd) fs_X12_278 dX12_wayCost_67 zhd) dX12_wayCost_70 rfl rfl))
  (CS.seq 89 (CS.if1 (T := 87) (F := 89) (CD.pure (CC.icmp_gt_F (T := 87) (F := 89) (CE.callV (by decide) (CA.ref (CE.aload_n rfl dX12_wayCost_73 zhd) (CA.int (CE.iload_n rfl dX12_wayCost_74 zhd) CA.nil)) zi_195 cv_X12_281 (fun _ => rfl) dX12_wayCost_75 zhd) (CE.aldI (CE.getR (CE.aload_n rfl dX12_wayCost_78 zhd) fs_X12_80 dX12_wayCost_79 zhd) (CE.iload_n rfl dX12_wayCost_82 zhd) (Or.inl ⟨rfl, dX12_wayCost_83⟩) zhd) dX12_wayCost_84 rfl rfl)) (CS.retI (CX.pure (CE.iconst kI_m1 dX12_wayCost_87 zhd)) dX12_wayCost_88) zhd)
  (CS.inc kI_1 (by decide) dX12_wayCost_89 zhd)) dX12_wayCost_92 rfl zhd)))
  (CS.retI (CX.pure (CE.iload_n rfl dX12_wayCost_95 zhd)) dX12_wayCost_96))))
theorem dX12_given_0 : decode cX12_given 0 = .ok (.iload_n 1, 1) := by decide +kernel
theorem dX12_given_1 : decode cX12_given 1 = .ok (.iconst (-1), 1) := by decide +kernel
theorem dX12_given_2 : decode cX12_given 2 = .ok (.iconst 3, 1) := by decide +kernel
theorem dX12_given_3 : decode cX12_given 3 = .ok (.invokestatic 142, 3) := by decide +kernel
theorem dX12_given_6 : decode cX12_given 6 = .ok (.ifCond .ne 6, 3) := by decide +kernel
theorem dX12_given_9 : decode cX12_given 9 = .ok (.bipush (-101), 2) := by decide +kernel
theorem dX12_given_11 : decode cX12_given 11 = .ok (.ireturn, 1) := by decide +kernel
theorem dX12_given_12 : decode cX12_given 12 = .ok (.iload_n 2, 1) := by decide +kernel
theorem dX12_given_13 : decode cX12_given 13 = .ok (.ifCond .eq 28, 3) := by decide +kernel
theorem dX12_given_16 : decode cX12_given 16 = .ok (.iload_n 2, 1) := by decide +kernel
theorem dX12_given_17 : decode cX12_given 17 = .ok (.bipush 10, 2) := by decide +kernel
theorem dX12_given_19 : decode cX12_given 19 = .ok (.bipush 15, 2) := by decide +kernel
theorem dX12_given_21 : decode cX12_given 21 = .ok (.invokestatic 142, 3) := by decide +kernel
theorem dX12_given_24 : decode cX12_given 24 = .ok (.ifCond .ne 17, 3) := by decide +kernel
theorem dX12_given_27 : decode cX12_given 27 = .ok (.iload_n 2, 1) := by decide +kernel
theorem dX12_given_28 : decode cX12_given 28 = .ok (.bipush 20, 2) := by decide +kernel
theorem dX12_given_30 : decode cX12_given 30 = .ok (.bipush 25, 2) := by decide +kernel
theorem dX12_given_32 : decode cX12_given 32 = .ok (.invokestatic 142, 3) := by decide +kernel
theorem dX12_given_35 : decode cX12_given 35 = .ok (.ifCond .ne 6, 3) := by decide +kernel
theorem dX12_given_38 : decode cX12_given 38 = .ok (.bipush (-102), 2) := by decide +kernel
theorem dX12_given_40 : decode cX12_given 40 = .ok (.ireturn, 1) := by decide +kernel
theorem dX12_given_41 : decode cX12_given 41 = .ok (.aload_n 0, 1) := by decide +kernel
theorem dX12_given_42 : decode cX12_given 42 = .ok (.getfield 284, 3) := by decide +kernel
theorem dX12_given_45 : decode cX12_given 45 = .ok (.bipush 40, 2) := by decide +kernel
theorem dX12_given_47 : decode cX12_given 47 = .ok (.if_icmp .ne 6, 3) := by decide +kernel
theorem dX12_given_50 : decode cX12_given 50 = .ok (.bipush (-103), 2) := by decide +kernel
theorem dX12_given_52 : decode cX12_given 52 = .ok (.ireturn, 1) := by decide +kernel
theorem dX12_given_53 : decode cX12_given 53 = .ok (.aload_n 0, 1) := by decide +kernel
theorem dX12_given_54 : decode cX12_given 54 = .ok (.dup, 1) := by decide +kernel
theorem dX12_given_55 : decode cX12_given 55 = .ok (.getfield 284, 3) := by decide +kernel
theorem dX12_given_58 : decode cX12_given 58 = .ok (.iconst 1, 1) := by decide +kernel
theorem dX12_given_59 : decode cX12_given 59 = .ok (.iadd, 1) := by decide +kernel
theorem dX12_given_60 : decode cX12_given 60 = .ok (.putfield 284, 3) := by decide +kernel
theorem dX12_given_63 : decode cX12_given 63 = .ok (.iconst (-1), 1) := by decide +kernel
theorem dX12_given_64 : decode cX12_given 64 = .ok (.istore_n 3, 1) := by decide +kernel
theorem dX12_given_65 : decode cX12_given 65 = .ok (.iconst 0, 1) := by decide +kernel
theorem dX12_given_66 : decode cX12_given 66 = .ok (.istore 4, 2) := by decide +kernel
theorem dX12_given_68 : decode cX12_given 68 = .ok (.iconst 0, 1) := by decide +kernel
theorem dX12_given_69 : decode cX12_given 69 = .ok (.istore 5, 2) := by decide +kernel
theorem dX12_given_71 : decode cX12_given 71 = .ok (.iload 5, 2) := by decide +kernel
theorem dX12_given_73 : decode cX12_given 73 = .ok (.iconst 1, 1) := by decide +kernel
theorem dX12_given_74 : decode cX12_given 74 = .ok (.iconst 2, 1) := by decide +kernel
theorem dX12_given_75 : decode cX12_given 75 = .ok (.aload_n 0, 1) := by decide +kernel
theorem dX12_given_76 : decode cX12_given 76 = .ok (.getfield 278, 3) := by decide +kernel
theorem dX12_given_79 : decode cX12_given 79 = .ok (.imul, 1) := by decide +kernel
theorem dX12_given_80 : decode cX12_given 80 = .ok (.ishl, 1) := by decide +kernel
theorem dX12_given_81 : decode cX12_given 81 = .ok (.if_icmp .ge 47, 3) := by decide +kernel
theorem dX12_given_84 : decode cX12_given 84 = .ok (.aload_n 0, 1) := by decide +kernel
theorem dX12_given_85 : decode cX12_given 85 = .ok (.iload 5, 2) := by decide +kernel
theorem dX12_given_87 : decode cX12_given 87 = .ok (.invokevirtual 287, 3) := by decide +kernel
theorem dX12_given_90 : decode cX12_given 90 = .ok (.aload_n 0, 1) := by decide +kernel
theorem dX12_given_91 : decode cX12_given 91 = .ok (.iload_n 1, 1) := by decide +kernel
theorem dX12_given_92 : decode cX12_given 92 = .ok (.invokevirtual 290, 3) := by decide +kernel
theorem dX12_given_95 : decode cX12_given 95 = .ok (.istore 6, 2) := by decide +kernel
theorem dX12_given_97 : decode cX12_given 97 = .ok (.iload 6, 2) := by decide +kernel
theorem dX12_given_99 : decode cX12_given 99 = .ok (.iconst (-1), 1) := by decide +kernel
theorem dX12_given_100 : decode cX12_given 100 = .ok (.if_icmp .eq 22, 3) := by decide +kernel
theorem dX12_given_103 : decode cX12_given 103 = .ok (.iload_n 3, 1) := by decide +kernel
theorem dX12_given_104 : decode cX12_given 104 = .ok (.iconst (-1), 1) := by decide +kernel
theorem dX12_given_105 : decode cX12_given 105 = .ok (.if_icmp .eq 10, 3) := by decide +kernel
theorem dX12_given_108 : decode cX12_given 108 = .ok (.iload 6, 2) := by decide +kernel
theorem dX12_given_110 : decode cX12_given 110 = .ok (.iload 4, 2) := by decide +kernel
theorem dX12_given_112 : decode cX12_given 112 = .ok (.if_icmp .ge 10, 3) := by decide +kernel
theorem dX12_given_115 : decode cX12_given 115 = .ok (.iload 5, 2) := by decide +kernel
theorem dX12_given_117 : decode cX12_given 117 = .ok (.istore_n 3, 1) := by decide +kernel
theorem dX12_given_118 : decode cX12_given 118 = .ok (.iload 6, 2) := by decide +kernel
theorem dX12_given_120 : decode cX12_given 120 = .ok (.istore 4, 2) := by decide +kernel
theorem dX12_given_122 : decode cX12_given 122 = .ok (.iinc 5 1, 3) := by decide +kernel
theorem dX12_given_125 : decode cX12_given 125 = .ok (.goto (-54), 3) := by decide +kernel
theorem dX12_given_128 : decode cX12_given 128 = .ok (.iload_n 3, 1) := by decide +kernel
theorem dX12_given_129 : decode cX12_given 129 = .ok (.iconst (-1), 1) := by decide +kernel
theorem dX12_given_130 : decode cX12_given 130 = .ok (.if_icmp .eq 18, 3) := by decide +kernel
theorem dX12_given_133 : decode cX12_given 133 = .ok (.iload_n 2, 1) := by decide +kernel
theorem dX12_given_134 : decode cX12_given 134 = .ok (.ifCond .le 16, 3) := by decide +kernel
theorem dX12_given_137 : decode cX12_given 137 = .ok (.iload_n 2, 1) := by decide +kernel
theorem dX12_given_138 : decode cX12_given 138 = .ok (.bipush 10, 2) := by decide +kernel
theorem dX12_given_140 : decode cX12_given 140 = .ok (.irem, 1) := by decide +kernel
theorem dX12_given_141 : decode cX12_given 141 = .ok (.aload_n 0, 1) := by decide +kernel
theorem dX12_given_142 : decode cX12_given 142 = .ok (.getfield 278, 3) := by decide +kernel
theorem dX12_given_145 : decode cX12_given 145 = .ok (.if_icmp .lt 5, 3) := by decide +kernel
theorem dX12_given_148 : decode cX12_given 148 = .ok (.iconst (-1), 1) := by decide +kernel
theorem dX12_given_149 : decode cX12_given 149 = .ok (.ireturn, 1) := by decide +kernel
theorem dX12_given_150 : decode cX12_given 150 = .ok (.aload_n 0, 1) := by decide +kernel
theorem dX12_given_151 : decode cX12_given 151 = .ok (.iload_n 3, 1) := by decide +kernel
theorem dX12_given_152 : decode cX12_given 152 = .ok (.invokevirtual 287, 3) := by decide +kernel
theorem dX12_given_155 : decode cX12_given 155 = .ok (.iload_n 2, 1) := by decide +kernel
theorem dX12_given_156 : decode cX12_given 156 = .ok (.ifCond .ne 8, 3) := by decide +kernel
theorem dX12_given_159 : decode cX12_given 159 = .ok (.iload 4, 2) := by decide +kernel
theorem dX12_given_161 : decode cX12_given 161 = .ok (.goto 29, 3) := by decide +kernel
theorem dX12_given_164 : decode cX12_given 164 = .ok (.iload_n 2, 1) := by decide +kernel
theorem dX12_given_165 : decode cX12_given 165 = .ok (.bipush 20, 2) := by decide +kernel
theorem dX12_given_167 : decode cX12_given 167 = .ok (.if_icmp .ge 15, 3) := by decide +kernel
theorem dX12_given_170 : decode cX12_given 170 = .ok (.aload_n 0, 1) := by decide +kernel
theorem dX12_given_171 : decode cX12_given 171 = .ok (.getfield 139, 3) := by decide +kernel
theorem dX12_given_174 : decode cX12_given 174 = .ok (.iload_n 2, 1) := by decide +kernel
theorem dX12_given_175 : decode cX12_given 175 = .ok (.bipush 10, 2) := by decide +kernel
theorem dX12_given_177 : decode cX12_given 177 = .ok (.isub, 1) := by decide +kernel
theorem dX12_given_178 : decode cX12_given 178 = .ok (.iaload, 1) := by decide +kernel
theorem dX12_given_179 : decode cX12_given 179 = .ok (.goto 11, 3) := by decide +kernel
theorem dX12_given_182 : decode cX12_given 182 = .ok (.aload_n 0, 1) := by decide +kernel
theorem dX12_given_183 : decode cX12_given 183 = .ok (.iload_n 2, 1) := by decide +kernel
theorem dX12_given_184 : decode cX12_given 184 = .ok (.bipush 20, 2) := by decide +kernel
theorem dX12_given_186 : decode cX12_given 186 = .ok (.isub, 1) := by decide +kernel
theorem dX12_given_187 : decode cX12_given 187 = .ok (.invokevirtual 281, 3) := by decide +kernel
theorem dX12_given_190 : decode cX12_given 190 = .ok (.ireturn, 1) := by decide +kernel
theorem cd_198 (G : ZG) (d : Nat) (K : ZKt) (F : ZFt) (hT : zt5 G.2.2.2) : CS G RX12 cX12_given 7 d K (some .int) [] (fun _ => []) 0 (bd_198 G.2.2.2 K F) := by
  unfold bd_198
  exact (CS.seq 12 (CS.if1 (T := 9) (F := 12) (CD.pure (CC.not (CC.if_ne_T (T := 12) (F := 9) (CE.callS (by decide) (CA.int (CE.iload_n rfl dX12_given_0 zhd) (CA.int (CE.iconst kI_m1 dX12_given_1 zhd) (CA.int (CE.iconst kI_3 dX12_given_2 zhd) CA.nil))) zi_135 cs_X12_142 (fun _ => rfl) dX12_given_3 zhd) dX12_given_6 rfl rfl))) (CS.retI (CX.pure (CE.bipush kB_m101 dX12_given_9 zhd)) dX12_given_11) zhd)
  (CS.seq 41 (CS.if1 (T := 38) (F := 41) (CD.pure (CC.and (CC.and (CC.if_ne_F (T := 16) (F := 41) (CE.iload_n rfl dX12_given_12 zhd) dX12_given_13 rfl rfl) (CC.not (CC.if_ne_T (T := 41) (F := 27) (CE.callS (by decide) (CA.int (CE.iload_n rfl dX12_given_16 zhd) (CA.int (CE.bipush kB_10 dX12_given_17 zhd) (CA.int (CE.bipush kB_15 dX12_given_19 zhd) CA.nil))) zi_135 cs_X12_142 (fun _ => rfl) dX12_given_21 zhd) dX12_given_24 rfl rfl))) (CC.not (CC.if_ne_T (T := 41) (F := 38) (CE.callS (by decide) (CA.int (CE.iload_n rfl dX12_given_27 zhd) (CA.int (CE.bipush kB_20 dX12_given_28 zhd) (CA.int (CE.bipush kB_25 dX12_given_30 zhd) CA.nil))) zi_135 cs_X12_142 (fun _ => rfl) dX12_given_32 zhd) dX12_given_35 rfl rfl)))) (CS.retI (CX.pure (CE.bipush kB_m102 dX12_given_38 zhd)) dX12_given_40) zhd)
  (CS.seq 53 (CS.if1 (T := 50) (F := 53) (CD.pure (CC.icmp_eq_F (T := 50) (F := 53) (CE.getI (CE.aload_n rfl dX12_given_41 zhd) fs_X12_284 dX12_given_42 zhd) (CE.bipush kB_40 dX12_given_45 zhd) dX12_given_47 rfl rfl)) (CS.retI (CX.pure (CE.bipush kB_m103 dX12_given_50 zhd)) dX12_given_52) zhd)
  (CS.seq 63 (CS.upd (CE.aload_n rfl dX12_given_53 zhd) dX12_given_54 dX12_given_55 (CE.iconst kI_1 dX12_given_58 zhd) (Or.inl ⟨rfl, dX12_given_59⟩) fs_X12_284 fp_X12_284 dX12_given_60 zhd)
  (CS.seq 65 (CS.decI_n (CX.pure (CE.iconst kI_m1 dX12_given_63 zhd)) rfl (by decide) dX12_given_64 zhd)
  (CS.seq 68 (CS.decI (CX.pure (CE.iconst kI_0 dX12_given_65 zhd)) (by decide) dX12_given_66 zhd)
  (CS.seq 128 (CS.scope (CS.seq 71 (CS.decI (CX.pure (CE.iconst kI_0 dX12_given_68 zhd)) (by decide) dX12_given_69 zhd)
  (CS.whl (T := 84) (F := 128) (p1 := 125) (CD.pure (CC.icmp_lt_F (T := 84) (F := 128) (CE.iload dX12_given_71 zhd) (CE.ishl (CE.iconst kI_1 dX12_given_73 zhd) (CE.imul (CE.iconst kI_2 dX12_given_74 zhd) (CE.getI (CE.aload_n rfl dX12_given_75 zhd) fs_X12_278 dX12_given_76 zhd) dX12_given_79 zhd) dX12_given_80 zhd) dX12_given_81 rfl rfl))
  (CS.seq 122 (CS.scope (CS.seq 90 (CS.callV (CA.ref (CE.aload_n rfl dX12_given_84 zhd) (CA.int (CE.iload dX12_given_85 zhd) CA.nil)) zi_196 cv_X12_287 (fun _ => rfl) dX12_given_87 zhd)
  (CS.seq 97 (CS.decI (CX.pure (CE.callV (by decide) (CA.ref (CE.aload_n rfl dX12_given_90 zhd) (CA.int (CE.iload_n rfl dX12_given_91 zhd) CA.nil)) zi_197 cv_X12_290 (fun _ => rfl) dX12_given_92 zhd)) (by decide) dX12_given_95 zhd)
  (CS.if1 (T := 115) (F := 122) (CD.pure (CC.and (CC.icmp_ne_F (T := 103) (F := 122) (CE.iload dX12_given_97 zhd) (CE.iconst kI_m1 dX12_given_99 zhd) dX12_given_100 rfl rfl) (CC.or (CC.icmp_eq_T (T := 115) (F := 108) (CE.iload_n rfl dX12_given_103 zhd) (CE.iconst kI_m1 dX12_given_104 zhd) dX12_given_105 rfl rfl) (CC.icmp_lt_F (T := 115) (F := 122) (CE.iload dX12_given_108 zhd) (CE.iload dX12_given_110 zhd) dX12_given_112 rfl rfl)))) (CS.seq 118 (CS.setI_n (CX.pure (CE.iload dX12_given_115 zhd)) rfl (by decide) dX12_given_117 zhd)
  (CS.setI (CX.pure (CE.iload dX12_given_118 zhd)) (by decide) dX12_given_120 zhd)) zhd))))
  (CS.inc kI_1 (by decide) dX12_given_122 zhd)) dX12_given_125 rfl zhd)))
  (CS.seq 150 (CS.if1 (T := 148) (F := 150) (CD.pure (CC.or (CC.icmp_eq_T (T := 148) (F := 133) (CE.iload_n rfl dX12_given_128 zhd) (CE.iconst kI_m1 dX12_given_129 zhd) dX12_given_130 rfl rfl) (CC.and (CC.if_gt_F (T := 137) (F := 150) (CE.iload_n rfl dX12_given_133 zhd) dX12_given_134 rfl rfl) (CC.icmp_ge_F (T := 148) (F := 150) (CE.irem (CE.iload_n rfl dX12_given_137 zhd) (CE.bipush kB_10 dX12_given_138 zhd) dX12_given_140 zhd) (CE.getI (CE.aload_n rfl dX12_given_141 zhd) fs_X12_278 dX12_given_142 zhd) dX12_given_145 rfl rfl)))) (CS.retI (CX.pure (CE.iconst kI_m1 dX12_given_148 zhd)) dX12_given_149) zhd)
  (CS.seq 155 (CS.callV (CA.ref (CE.aload_n rfl dX12_given_150 zhd) (CA.int (CE.iload_n rfl dX12_given_151 zhd) CA.nil)) zi_196 cv_X12_287 (fun _ => rfl) dX12_given_152 zhd)
  (CS.retI (CX.pure (CE.tern (T := 159) (F := 164) (p1 := 161) (q := 190) (CC.if_eq_F (T := 159) (F := 164) (CE.iload_n rfl dX12_given_155 zhd) dX12_given_156 rfl rfl) (CE.iload dX12_given_159 zhd) zex2 dX12_given_161 rfl zhd (CE.tern (T := 170) (F := 182) (p1 := 179) (q := 190) (CC.icmp_lt_F (T := 170) (F := 182) (CE.iload_n rfl dX12_given_164 zhd) (CE.bipush kB_20 dX12_given_165 zhd) dX12_given_167 rfl rfl) (CE.aldI (CE.getR (CE.aload_n rfl dX12_given_170 zhd) fs_X12_139 dX12_given_171 zhd) (CE.isub (CE.iload_n rfl dX12_given_174 zhd) (CE.bipush kB_10 dX12_given_175 zhd) dX12_given_177 zhd) (Or.inl ⟨rfl, dX12_given_178⟩) zhd) zex2 dX12_given_179 rfl zhd (CE.callV (by decide) (CA.ref (CE.aload_n rfl dX12_given_182 zhd) (CA.int (CE.isub (CE.iload_n rfl dX12_given_183 zhd) (CE.bipush kB_20 dX12_given_184 zhd) dX12_given_186 zhd) CA.nil)) zi_195 cv_X12_281 (fun _ => rfl) dX12_given_187 zhd)))) dX12_given_190))))))))))
theorem dX12_late_0 : decode cX12_late 0 = .ok (.iload_n 1, 1) := by decide +kernel
theorem dX12_late_1 : decode cX12_late 1 = .ok (.invokestatic 275, 3) := by decide +kernel
theorem dX12_late_4 : decode cX12_late 4 = .ok (.ifCond .ne 6, 3) := by decide +kernel
theorem dX12_late_7 : decode cX12_late 7 = .ok (.bipush (-101), 2) := by decide +kernel
theorem dX12_late_9 : decode cX12_late 9 = .ok (.ireturn, 1) := by decide +kernel
theorem dX12_late_10 : decode cX12_late 10 = .ok (.iload_n 2, 1) := by decide +kernel
theorem dX12_late_11 : decode cX12_late 11 = .ok (.iconst 0, 1) := by decide +kernel
theorem dX12_late_12 : decode cX12_late 12 = .ok (.bipush 30, 2) := by decide +kernel
theorem dX12_late_14 : decode cX12_late 14 = .ok (.invokestatic 142, 3) := by decide +kernel
theorem dX12_late_17 : decode cX12_late 17 = .ok (.ifCond .ne 6, 3) := by decide +kernel
theorem dX12_late_20 : decode cX12_late 20 = .ok (.bipush (-102), 2) := by decide +kernel
theorem dX12_late_22 : decode cX12_late 22 = .ok (.ireturn, 1) := by decide +kernel
theorem dX12_late_23 : decode cX12_late 23 = .ok (.aload_n 0, 1) := by decide +kernel
theorem dX12_late_24 : decode cX12_late 24 = .ok (.getfield 83, 3) := by decide +kernel
theorem dX12_late_27 : decode cX12_late 27 = .ok (.iload_n 1, 1) := by decide +kernel
theorem dX12_late_28 : decode cX12_late 28 = .ok (.iaload, 1) := by decide +kernel
theorem dX12_late_29 : decode cX12_late 29 = .ok (.bipush 16, 2) := by decide +kernel
theorem dX12_late_31 : decode cX12_late 31 = .ok (.if_icmp .ne 6, 3) := by decide +kernel
theorem dX12_late_34 : decode cX12_late 34 = .ok (.bipush (-104), 2) := by decide +kernel
theorem dX12_late_36 : decode cX12_late 36 = .ok (.ireturn, 1) := by decide +kernel
theorem dX12_late_37 : decode cX12_late 37 = .ok (.aload_n 0, 1) := by decide +kernel
theorem dX12_late_38 : decode cX12_late 38 = .ok (.getfield 86, 3) := by decide +kernel
theorem dX12_late_41 : decode cX12_late 41 = .ok (.bipush 16, 2) := by decide +kernel
theorem dX12_late_43 : decode cX12_late 43 = .ok (.iload_n 1, 1) := by decide +kernel
theorem dX12_late_44 : decode cX12_late 44 = .ok (.imul, 1) := by decide +kernel
theorem dX12_late_45 : decode cX12_late 45 = .ok (.aload_n 0, 1) := by decide +kernel
theorem dX12_late_46 : decode cX12_late 46 = .ok (.getfield 83, 3) := by decide +kernel
theorem dX12_late_49 : decode cX12_late 49 = .ok (.iload_n 1, 1) := by decide +kernel
theorem dX12_late_50 : decode cX12_late 50 = .ok (.iaload, 1) := by decide +kernel
theorem dX12_late_51 : decode cX12_late 51 = .ok (.iadd, 1) := by decide +kernel
theorem dX12_late_52 : decode cX12_late 52 = .ok (.iload_n 2, 1) := by decide +kernel
theorem dX12_late_53 : decode cX12_late 53 = .ok (.iastore, 1) := by decide +kernel
theorem dX12_late_54 : decode cX12_late 54 = .ok (.aload_n 0, 1) := by decide +kernel
theorem dX12_late_55 : decode cX12_late 55 = .ok (.getfield 83, 3) := by decide +kernel
theorem dX12_late_58 : decode cX12_late 58 = .ok (.iload_n 1, 1) := by decide +kernel
theorem dX12_late_59 : decode cX12_late 59 = .ok (.dup2, 1) := by decide +kernel
theorem dX12_late_60 : decode cX12_late 60 = .ok (.iaload, 1) := by decide +kernel
theorem dX12_late_61 : decode cX12_late 61 = .ok (.iconst 1, 1) := by decide +kernel
theorem dX12_late_62 : decode cX12_late 62 = .ok (.iadd, 1) := by decide +kernel
theorem dX12_late_63 : decode cX12_late 63 = .ok (.iastore, 1) := by decide +kernel
theorem dX12_late_64 : decode cX12_late 64 = .ok (.aload_n 0, 1) := by decide +kernel
theorem dX12_late_65 : decode cX12_late 65 = .ok (.getfield 83, 3) := by decide +kernel
theorem dX12_late_68 : decode cX12_late 68 = .ok (.iload_n 1, 1) := by decide +kernel
theorem dX12_late_69 : decode cX12_late 69 = .ok (.iaload, 1) := by decide +kernel
theorem dX12_late_70 : decode cX12_late 70 = .ok (.ireturn, 1) := by decide +kernel
theorem cd_199 (G : ZG) (d : Nat) (K : ZKt) (F : ZFt) (hT : zt5 G.2.2.2) : CS G RX12 cX12_late 3 d K (some .int) [] (fun _ => []) 0 (bd_199 G.2.2.2 K F) := by
  unfold bd_199
  exact (CS.seq 10 (CS.if1 (T := 7) (F := 10) (CD.pure (CC.not (CC.if_ne_T (T := 10) (F := 7) (CE.callS (by decide) (CA.int (CE.iload_n rfl dX12_late_0 zhd) CA.nil) zi_191 cs_X12_275 (fun _ => rfl) dX12_late_1 zhd) dX12_late_4 rfl rfl))) (CS.retI (CX.pure (CE.bipush kB_m101 dX12_late_7 zhd)) dX12_late_9) zhd)
  (CS.seq 23 (CS.if1 (T := 20) (F := 23) (CD.pure (CC.not (CC.if_ne_T (T := 23) (F := 20) (CE.callS (by decide) (CA.int (CE.iload_n rfl dX12_late_10 zhd) (CA.int (CE.iconst kI_0 dX12_late_11 zhd) (CA.int (CE.bipush kB_30 dX12_late_12 zhd) CA.nil))) zi_135 cs_X12_142 (fun _ => rfl) dX12_late_14 zhd) dX12_late_17 rfl rfl))) (CS.retI (CX.pure (CE.bipush kB_m102 dX12_late_20 zhd)) dX12_late_22) zhd)
  (CS.seq 37 (CS.if1 (T := 34) (F := 37) (CD.pure (CC.icmp_eq_F (T := 34) (F := 37) (CE.aldI (CE.getR (CE.aload_n rfl dX12_late_23 zhd) fs_X12_83 dX12_late_24 zhd) (CE.iload_n rfl dX12_late_27 zhd) (Or.inl ⟨rfl, dX12_late_28⟩) zhd) (CE.bipush kB_16 dX12_late_29 zhd) dX12_late_31 rfl rfl)) (CS.retI (CX.pure (CE.bipush kB_m104 dX12_late_34 zhd)) dX12_late_36) zhd)
  (CS.seq 54 (CS.st (CE.getR (CE.aload_n rfl dX12_late_37 zhd) fs_X12_86 dX12_late_38 zhd) (CX.pure (CE.iadd (CE.imul (CE.bipush kB_16 dX12_late_41 zhd) (CE.iload_n rfl dX12_late_43 zhd) dX12_late_44 zhd) (CE.aldI (CE.getR (CE.aload_n rfl dX12_late_45 zhd) fs_X12_83 dX12_late_46 zhd) (CE.iload_n rfl dX12_late_49 zhd) (Or.inl ⟨rfl, dX12_late_50⟩) zhd) dX12_late_51 zhd)) (CX.pure (CE.iload_n rfl dX12_late_52 zhd)) (Or.inl ⟨rfl, dX12_late_53⟩) zhd)
  (CS.seq 64 (CS.stU (CE.getR (CE.aload_n rfl dX12_late_54 zhd) fs_X12_83 dX12_late_55 zhd) (CE.iload_n rfl dX12_late_58 zhd) dX12_late_59 dX12_late_60 (CE.iconst kI_1 dX12_late_61 zhd) (Or.inl ⟨rfl, dX12_late_62⟩) dX12_late_63 zhd)
  (CS.retI (CX.pure (CE.aldI (CE.getR (CE.aload_n rfl dX12_late_64 zhd) fs_X12_83 dX12_late_65 zhd) (CE.iload_n rfl dX12_late_68 zhd) (Or.inl ⟨rfl, dX12_late_69⟩) zhd)) dX12_late_70))))))
theorem dX12_foretold_0 : decode cX12_foretold 0 = .ok (.iload_n 1, 1) := by decide +kernel
theorem dX12_foretold_1 : decode cX12_foretold 1 = .ok (.invokestatic 275, 3) := by decide +kernel
theorem dX12_foretold_4 : decode cX12_foretold 4 = .ok (.ifCond .ne 6, 3) := by decide +kernel
theorem dX12_foretold_7 : decode cX12_foretold 7 = .ok (.bipush (-101), 2) := by decide +kernel
theorem dX12_foretold_9 : decode cX12_foretold 9 = .ok (.ireturn, 1) := by decide +kernel
theorem dX12_foretold_10 : decode cX12_foretold 10 = .ok (.iload_n 2, 1) := by decide +kernel
theorem dX12_foretold_11 : decode cX12_foretold 11 = .ok (.iconst 1, 1) := by decide +kernel
theorem dX12_foretold_12 : decode cX12_foretold 12 = .ok (.bipush 100, 2) := by decide +kernel
theorem dX12_foretold_14 : decode cX12_foretold 14 = .ok (.invokestatic 142, 3) := by decide +kernel
theorem dX12_foretold_17 : decode cX12_foretold 17 = .ok (.ifCond .ne 6, 3) := by decide +kernel
theorem dX12_foretold_20 : decode cX12_foretold 20 = .ok (.bipush (-102), 2) := by decide +kernel
theorem dX12_foretold_22 : decode cX12_foretold 22 = .ok (.ireturn, 1) := by decide +kernel
theorem dX12_foretold_23 : decode cX12_foretold 23 = .ok (.iconst 0, 1) := by decide +kernel
theorem dX12_foretold_24 : decode cX12_foretold 24 = .ok (.istore_n 3, 1) := by decide +kernel
theorem dX12_foretold_25 : decode cX12_foretold 25 = .ok (.iload_n 3, 1) := by decide +kernel
theorem dX12_foretold_26 : decode cX12_foretold 26 = .ok (.bipush 30, 2) := by decide +kernel
theorem dX12_foretold_28 : decode cX12_foretold 28 = .ok (.if_icmp .gt 85, 3) := by decide +kernel
theorem dX12_foretold_31 : decode cX12_foretold 31 = .ok (.aload_n 0, 1) := by decide +kernel
theorem dX12_foretold_32 : decode cX12_foretold 32 = .ok (.getfield 83, 3) := by decide +kernel
theorem dX12_foretold_35 : decode cX12_foretold 35 = .ok (.iload_n 1, 1) := by decide +kernel
theorem dX12_foretold_36 : decode cX12_foretold 36 = .ok (.iaload, 1) := by decide +kernel
theorem dX12_foretold_37 : decode cX12_foretold 37 = .ok (.ifCond .le 76, 3) := by decide +kernel
theorem dX12_foretold_40 : decode cX12_foretold 40 = .ok (.iconst 0, 1) := by decide +kernel
theorem dX12_foretold_41 : decode cX12_foretold 41 = .ok (.istore 4, 2) := by decide +kernel
theorem dX12_foretold_43 : decode cX12_foretold 43 = .ok (.iconst 0, 1) := by decide +kernel
theorem dX12_foretold_44 : decode cX12_foretold 44 = .ok (.istore 5, 2) := by decide +kernel
theorem dX12_foretold_46 : decode cX12_foretold 46 = .ok (.iload 5, 2) := by decide +kernel
theorem dX12_foretold_48 : decode cX12_foretold 48 = .ok (.aload_n 0, 1) := by decide +kernel
theorem dX12_foretold_49 : decode cX12_foretold 49 = .ok (.getfield 83, 3) := by decide +kernel
theorem dX12_foretold_52 : decode cX12_foretold 52 = .ok (.iload_n 1, 1) := by decide +kernel
theorem dX12_foretold_53 : decode cX12_foretold 53 = .ok (.iaload, 1) := by decide +kernel
theorem dX12_foretold_54 : decode cX12_foretold 54 = .ok (.if_icmp .ge 35, 3) := by decide +kernel
theorem dX12_foretold_57 : decode cX12_foretold 57 = .ok (.iload 4, 2) := by decide +kernel
theorem dX12_foretold_59 : decode cX12_foretold 59 = .ok (.aload_n 0, 1) := by decide +kernel
theorem dX12_foretold_60 : decode cX12_foretold 60 = .ok (.getfield 86, 3) := by decide +kernel
theorem dX12_foretold_63 : decode cX12_foretold 63 = .ok (.bipush 16, 2) := by decide +kernel
theorem dX12_foretold_65 : decode cX12_foretold 65 = .ok (.iload_n 1, 1) := by decide +kernel
theorem dX12_foretold_66 : decode cX12_foretold 66 = .ok (.imul, 1) := by decide +kernel
theorem dX12_foretold_67 : decode cX12_foretold 67 = .ok (.iload 5, 2) := by decide +kernel
theorem dX12_foretold_69 : decode cX12_foretold 69 = .ok (.iadd, 1) := by decide +kernel
theorem dX12_foretold_70 : decode cX12_foretold 70 = .ok (.iaload, 1) := by decide +kernel
theorem dX12_foretold_71 : decode cX12_foretold 71 = .ok (.iload_n 3, 1) := by decide +kernel
theorem dX12_foretold_72 : decode cX12_foretold 72 = .ok (.if_icmp .gt 7, 3) := by decide +kernel
theorem dX12_foretold_75 : decode cX12_foretold 75 = .ok (.iconst 1, 1) := by decide +kernel
theorem dX12_foretold_76 : decode cX12_foretold 76 = .ok (.goto 4, 3) := by decide +kernel
theorem dX12_foretold_79 : decode cX12_foretold 79 = .ok (.iconst 0, 1) := by decide +kernel
theorem dX12_foretold_80 : decode cX12_foretold 80 = .ok (.iadd, 1) := by decide +kernel
theorem dX12_foretold_81 : decode cX12_foretold 81 = .ok (.istore 4, 2) := by decide +kernel
theorem dX12_foretold_83 : decode cX12_foretold 83 = .ok (.iinc 5 1, 3) := by decide +kernel
theorem dX12_foretold_86 : decode cX12_foretold 86 = .ok (.goto (-40), 3) := by decide +kernel
theorem dX12_foretold_89 : decode cX12_foretold 89 = .ok (.bipush 100, 2) := by decide +kernel
theorem dX12_foretold_91 : decode cX12_foretold 91 = .ok (.iload 4, 2) := by decide +kernel
theorem dX12_foretold_93 : decode cX12_foretold 93 = .ok (.imul, 1) := by decide +kernel
theorem dX12_foretold_94 : decode cX12_foretold 94 = .ok (.iload_n 2, 1) := by decide +kernel
theorem dX12_foretold_95 : decode cX12_foretold 95 = .ok (.aload_n 0, 1) := by decide +kernel
theorem dX12_foretold_96 : decode cX12_foretold 96 = .ok (.getfield 83, 3) := by decide +kernel
theorem dX12_foretold_99 : decode cX12_foretold 99 = .ok (.iload_n 1, 1) := by decide +kernel
theorem dX12_foretold_100 : decode cX12_foretold 100 = .ok (.iaload, 1) := by decide +kernel
theorem dX12_foretold_101 : decode cX12_foretold 101 = .ok (.imul, 1) := by decide +kernel
theorem dX12_foretold_102 : decode cX12_foretold 102 = .ok (.if_icmp .lt 5, 3) := by decide +kernel
theorem dX12_foretold_105 : decode cX12_foretold 105 = .ok (.iload_n 3, 1) := by decide +kernel
theorem dX12_foretold_106 : decode cX12_foretold 106 = .ok (.ireturn, 1) := by decide +kernel
theorem dX12_foretold_107 : decode cX12_foretold 107 = .ok (.iinc 3 1, 3) := by decide +kernel
theorem dX12_foretold_110 : decode cX12_foretold 110 = .ok (.goto (-85), 3) := by decide +kernel
theorem dX12_foretold_113 : decode cX12_foretold 113 = .ok (.iconst (-1), 1) := by decide +kernel
theorem dX12_foretold_114 : decode cX12_foretold 114 = .ok (.ireturn, 1) := by decide +kernel
theorem cd_200 (G : ZG) (d : Nat) (K : ZKt) (F : ZFt) (hT : zt5 G.2.2.2) : CS G RX12 cX12_foretold 6 d K (some .int) [] (fun _ => []) 0 (bd_200 G.2.2.2 K F) := by
  unfold bd_200
  exact (CS.seq 10 (CS.if1 (T := 7) (F := 10) (CD.pure (CC.not (CC.if_ne_T (T := 10) (F := 7) (CE.callS (by decide) (CA.int (CE.iload_n rfl dX12_foretold_0 zhd) CA.nil) zi_191 cs_X12_275 (fun _ => rfl) dX12_foretold_1 zhd) dX12_foretold_4 rfl rfl))) (CS.retI (CX.pure (CE.bipush kB_m101 dX12_foretold_7 zhd)) dX12_foretold_9) zhd)
  (CS.seq 23 (CS.if1 (T := 20) (F := 23) (CD.pure (CC.not (CC.if_ne_T (T := 23) (F := 20) (CE.callS (by decide) (CA.int (CE.iload_n rfl dX12_foretold_10 zhd) (CA.int (CE.iconst kI_1 dX12_foretold_11 zhd) (CA.int (CE.bipush kB_100 dX12_foretold_12 zhd) CA.nil))) zi_135 cs_X12_142 (fun _ => rfl) dX12_foretold_14 zhd) dX12_foretold_17 rfl rfl))) (CS.retI (CX.pure (CE.bipush kB_m102 dX12_foretold_20 zhd)) dX12_foretold_22) zhd)
  (CS.seq 113 (CS.scope (CS.seq 25 (CS.decI_n (CX.pure (CE.iconst kI_0 dX12_foretold_23 zhd)) rfl (by decide) dX12_foretold_24 zhd)
  (CS.whl (T := 40) (F := 113) (p1 := 110) (CD.pure (CC.and (CC.icmp_le_F (T := 31) (F := 113) (CE.iload_n rfl dX12_foretold_25 zhd) (CE.bipush kB_30 dX12_foretold_26 zhd) dX12_foretold_28 rfl rfl) (CC.if_gt_F (T := 40) (F := 113) (CE.aldI (CE.getR (CE.aload_n rfl dX12_foretold_31 zhd) fs_X12_83 dX12_foretold_32 zhd) (CE.iload_n rfl dX12_foretold_35 zhd) (Or.inl ⟨rfl, dX12_foretold_36⟩) zhd) dX12_foretold_37 rfl rfl)))
  (CS.seq 107 (CS.scope (CS.seq 43 (CS.decI (CX.pure (CE.iconst kI_0 dX12_foretold_40 zhd)) (by decide) dX12_foretold_41 zhd)
  (CS.seq 89 (CS.scope (CS.seq 46 (CS.decI (CX.pure (CE.iconst kI_0 dX12_foretold_43 zhd)) (by decide) dX12_foretold_44 zhd)
  (CS.whl (T := 57) (F := 89) (p1 := 86) (CD.pure (CC.icmp_lt_F (T := 57) (F := 89) (CE.iload dX12_foretold_46 zhd) (CE.aldI (CE.getR (CE.aload_n rfl dX12_foretold_48 zhd) fs_X12_83 dX12_foretold_49 zhd) (CE.iload_n rfl dX12_foretold_52 zhd) (Or.inl ⟨rfl, dX12_foretold_53⟩) zhd) dX12_foretold_54 rfl rfl))
  (CS.seq 83 (CS.setI (CX.pure (CE.iadd (CE.iload dX12_foretold_57 zhd) (CE.tern (T := 75) (F := 79) (p1 := 76) (q := 80) (CC.icmp_le_F (T := 75) (F := 79) (CE.aldI (CE.getR (CE.aload_n rfl dX12_foretold_59 zhd) fs_X12_86 dX12_foretold_60 zhd) (CE.iadd (CE.imul (CE.bipush kB_16 dX12_foretold_63 zhd) (CE.iload_n rfl dX12_foretold_65 zhd) dX12_foretold_66 zhd) (CE.iload dX12_foretold_67 zhd) dX12_foretold_69 zhd) (Or.inl ⟨rfl, dX12_foretold_70⟩) zhd) (CE.iload_n rfl dX12_foretold_71 zhd) dX12_foretold_72 rfl rfl) (CE.iconst kI_1 dX12_foretold_75 zhd) zex2 dX12_foretold_76 rfl zhd (CE.iconst kI_0 dX12_foretold_79 zhd)) dX12_foretold_80 zhd)) (by decide) dX12_foretold_81 zhd)
  (CS.inc kI_1 (by decide) dX12_foretold_83 zhd)) dX12_foretold_86 rfl zhd)))
  (CS.if1 (T := 105) (F := 107) (CD.pure (CC.icmp_ge_F (T := 105) (F := 107) (CE.imul (CE.bipush kB_100 dX12_foretold_89 zhd) (CE.iload dX12_foretold_91 zhd) dX12_foretold_93 zhd) (CE.imul (CE.iload_n rfl dX12_foretold_94 zhd) (CE.aldI (CE.getR (CE.aload_n rfl dX12_foretold_95 zhd) fs_X12_83 dX12_foretold_96 zhd) (CE.iload_n rfl dX12_foretold_99 zhd) (Or.inl ⟨rfl, dX12_foretold_100⟩) zhd) dX12_foretold_101 zhd) dX12_foretold_102 rfl rfl)) (CS.retI (CX.pure (CE.iload_n rfl dX12_foretold_105 zhd)) dX12_foretold_106) zhd))))
  (CS.inc kI_1 (by decide) dX12_foretold_107 zhd)) dX12_foretold_110 rfl zhd)))
  (CS.retI (CX.pure (CE.iconst kI_m1 dX12_foretold_113 zhd)) dX12_foretold_114))))
theorem dX12_look_0 : decode cX12_look 0 = .ok (.iload_n 1, 1) := by decide +kernel
theorem dX12_look_1 : decode cX12_look 1 = .ok (.iconst 1, 1) := by decide +kernel
theorem dX12_look_2 : decode cX12_look 2 = .ok (.sipush 999, 3) := by decide +kernel
theorem dX12_look_5 : decode cX12_look 5 = .ok (.invokestatic 142, 3) := by decide +kernel
theorem dX12_look_8 : decode cX12_look 8 = .ok (.ifCond .ne 6, 3) := by decide +kernel
theorem dX12_look_11 : decode cX12_look 11 = .ok (.bipush (-102), 2) := by decide +kernel
theorem dX12_look_13 : decode cX12_look 13 = .ok (.ireturn, 1) := by decide +kernel
theorem dX12_look_14 : decode cX12_look 14 = .ok (.aload_n 0, 1) := by decide +kernel
theorem dX12_look_15 : decode cX12_look 15 = .ok (.getfield 293, 3) := by decide +kernel
theorem dX12_look_18 : decode cX12_look 18 = .ok (.bipush 6, 2) := by decide +kernel
theorem dX12_look_20 : decode cX12_look 20 = .ok (.if_icmp .ne 6, 3) := by decide +kernel
theorem dX12_look_23 : decode cX12_look 23 = .ok (.bipush (-104), 2) := by decide +kernel
theorem dX12_look_25 : decode cX12_look 25 = .ok (.ireturn, 1) := by decide +kernel
theorem dX12_look_26 : decode cX12_look 26 = .ok (.aload_n 0, 1) := by decide +kernel
theorem dX12_look_27 : decode cX12_look 27 = .ok (.getfield 89, 3) := by decide +kernel
theorem dX12_look_30 : decode cX12_look 30 = .ok (.aload_n 0, 1) := by decide +kernel
theorem dX12_look_31 : decode cX12_look 31 = .ok (.getfield 293, 3) := by decide +kernel
theorem dX12_look_34 : decode cX12_look 34 = .ok (.iload_n 1, 1) := by decide +kernel
theorem dX12_look_35 : decode cX12_look 35 = .ok (.iastore, 1) := by decide +kernel
theorem dX12_look_36 : decode cX12_look 36 = .ok (.aload_n 0, 1) := by decide +kernel
theorem dX12_look_37 : decode cX12_look 37 = .ok (.dup, 1) := by decide +kernel
theorem dX12_look_38 : decode cX12_look 38 = .ok (.getfield 293, 3) := by decide +kernel
theorem dX12_look_41 : decode cX12_look 41 = .ok (.iconst 1, 1) := by decide +kernel
theorem dX12_look_42 : decode cX12_look 42 = .ok (.iadd, 1) := by decide +kernel
theorem dX12_look_43 : decode cX12_look 43 = .ok (.putfield 293, 3) := by decide +kernel
theorem dX12_look_46 : decode cX12_look 46 = .ok (.aload_n 0, 1) := by decide +kernel
theorem dX12_look_47 : decode cX12_look 47 = .ok (.getfield 293, 3) := by decide +kernel
theorem dX12_look_50 : decode cX12_look 50 = .ok (.iconst 1, 1) := by decide +kernel
theorem dX12_look_51 : decode cX12_look 51 = .ok (.isub, 1) := by decide +kernel
theorem dX12_look_52 : decode cX12_look 52 = .ok (.ireturn, 1) := by decide +kernel
theorem cd_201 (G : ZG) (d : Nat) (K : ZKt) (F : ZFt) (hT : zt5 G.2.2.2) : CS G RX12 cX12_look 2 d K (some .int) [] (fun _ => []) 0 (bd_201 G.2.2.2 K F) := by
  unfold bd_201
  exact (CS.seq 14 (CS.if1 (T := 11) (F := 14) (CD.pure (CC.not (CC.if_ne_T (T := 14) (F := 11) (CE.callS (by decide) (CA.int (CE.iload_n rfl dX12_look_0 zhd) (CA.int (CE.iconst kI_1 dX12_look_1 zhd) (CA.int (CE.sipush kS_999 dX12_look_2 zhd) CA.nil))) zi_135 cs_X12_142 (fun _ => rfl) dX12_look_5 zhd) dX12_look_8 rfl rfl))) (CS.retI (CX.pure (CE.bipush kB_m102 dX12_look_11 zhd)) dX12_look_13) zhd)
  (CS.seq 26 (CS.if1 (T := 23) (F := 26) (CD.pure (CC.icmp_eq_F (T := 23) (F := 26) (CE.getI (CE.aload_n rfl dX12_look_14 zhd) fs_X12_293 dX12_look_15 zhd) (CE.bipush kB_6 dX12_look_18 zhd) dX12_look_20 rfl rfl)) (CS.retI (CX.pure (CE.bipush kB_m104 dX12_look_23 zhd)) dX12_look_25) zhd)
  (CS.seq 36 (CS.st (CE.getR (CE.aload_n rfl dX12_look_26 zhd) fs_X12_89 dX12_look_27 zhd) (CX.pure (CE.getI (CE.aload_n rfl dX12_look_30 zhd) fs_X12_293 dX12_look_31 zhd)) (CX.pure (CE.iload_n rfl dX12_look_34 zhd)) (Or.inl ⟨rfl, dX12_look_35⟩) zhd)
  (CS.seq 46 (CS.upd (CE.aload_n rfl dX12_look_36 zhd) dX12_look_37 dX12_look_38 (CE.iconst kI_1 dX12_look_41 zhd) (Or.inl ⟨rfl, dX12_look_42⟩) fs_X12_293 fp_X12_293 dX12_look_43 zhd)
  (CS.retI (CX.pure (CE.isub (CE.getI (CE.aload_n rfl dX12_look_46 zhd) fs_X12_293 dX12_look_47 zhd) (CE.iconst kI_1 dX12_look_50 zhd) dX12_look_51 zhd)) dX12_look_52)))))
