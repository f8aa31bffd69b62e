/-! code of the bodies 33 to 61 -/
theorem dX4_take_0 : decode cX4_take 0 = .ok (.aload_n 0, 1) := by decide +kernel
theorem dX4_take_1 : decode cX4_take 1 = .ok (.getfield 16, 3) := by decide +kernel
theorem dX4_take_4 : decode cX4_take 4 = .ok (.iload_n 2, 1) := by decide +kernel
theorem dX4_take_5 : decode cX4_take 5 = .ok (.iaload, 1) := by decide +kernel
theorem dX4_take_6 : decode cX4_take 6 = .ok (.istore 4, 2) := by decide +kernel
theorem dX4_take_8 : decode cX4_take 8 = .ok (.iload 4, 2) := by decide +kernel
theorem dX4_take_10 : decode cX4_take 10 = .ok (.iload_n 1, 1) := by decide +kernel
theorem dX4_take_11 : decode cX4_take 11 = .ok (.if_icmp .ne 5, 3) := by decide +kernel
theorem dX4_take_14 : decode cX4_take 14 = .ok (.iconst (-1), 1) := by decide +kernel
theorem dX4_take_15 : decode cX4_take 15 = .ok (.ireturn, 1) := by decide +kernel
theorem dX4_take_16 : decode cX4_take 16 = .ok (.iload 4, 2) := by decide +kernel
theorem dX4_take_18 : decode cX4_take 18 = .ok (.bipush 6, 2) := by decide +kernel
theorem dX4_take_20 : decode cX4_take 20 = .ok (.invokestatic 32, 3) := by decide +kernel
theorem dX4_take_23 : decode cX4_take 23 = .ok (.ifCond .eq 13, 3) := by decide +kernel
theorem dX4_take_26 : decode cX4_take 26 = .ok (.aload_n 0, 1) := by decide +kernel
theorem dX4_take_27 : decode cX4_take 27 = .ok (.getfield 11, 3) := by decide +kernel
theorem dX4_take_30 : decode cX4_take 30 = .ok (.iload 4, 2) := by decide +kernel
theorem dX4_take_32 : decode cX4_take 32 = .ok (.aaload, 1) := by decide +kernel
theorem dX4_take_33 : decode cX4_take 33 = .ok (.iload_n 3, 1) := by decide +kernel
theorem dX4_take_34 : decode cX4_take 34 = .ok (.iconst (-1), 1) := by decide +kernel
theorem dX4_take_35 : decode cX4_take 35 = .ok (.iastore, 1) := by decide +kernel
theorem dX4_take_36 : decode cX4_take 36 = .ok (.aload_n 0, 1) := by decide +kernel
theorem dX4_take_37 : decode cX4_take 37 = .ok (.getfield 11, 3) := by decide +kernel
theorem dX4_take_40 : decode cX4_take 40 = .ok (.iload_n 1, 1) := by decide +kernel
theorem dX4_take_41 : decode cX4_take 41 = .ok (.aaload, 1) := by decide +kernel
theorem dX4_take_42 : decode cX4_take 42 = .ok (.iload_n 3, 1) := by decide +kernel
theorem dX4_take_43 : decode cX4_take 43 = .ok (.iload_n 2, 1) := by decide +kernel
theorem dX4_take_44 : decode cX4_take 44 = .ok (.invokestatic 36, 3) := by decide +kernel
theorem dX4_take_47 : decode cX4_take 47 = .ok (.istore 5, 2) := by decide +kernel
theorem dX4_take_49 : decode cX4_take 49 = .ok (.iload 5, 2) := by decide +kernel
theorem dX4_take_51 : decode cX4_take 51 = .ok (.bipush 24, 2) := by decide +kernel
theorem dX4_take_53 : decode cX4_take 53 = .ok (.invokestatic 32, 3) := by decide +kernel
theorem dX4_take_56 : decode cX4_take 56 = .ok (.ifCond .eq 11, 3) := by decide +kernel
theorem dX4_take_59 : decode cX4_take 59 = .ok (.aload_n 0, 1) := by decide +kernel
theorem dX4_take_60 : decode cX4_take 60 = .ok (.getfield 16, 3) := by decide +kernel
theorem dX4_take_63 : decode cX4_take 63 = .ok (.iload 5, 2) := by decide +kernel
theorem dX4_take_65 : decode cX4_take 65 = .ok (.iconst (-1), 1) := by decide +kernel
theorem dX4_take_66 : decode cX4_take 66 = .ok (.iastore, 1) := by decide +kernel
theorem dX4_take_67 : decode cX4_take 67 = .ok (.aload_n 0, 1) := by decide +kernel
theorem dX4_take_68 : decode cX4_take 68 = .ok (.getfield 16, 3) := by decide +kernel
theorem dX4_take_71 : decode cX4_take 71 = .ok (.iload_n 2, 1) := by decide +kernel
theorem dX4_take_72 : decode cX4_take 72 = .ok (.iload_n 1, 1) := by decide +kernel
theorem dX4_take_73 : decode cX4_take 73 = .ok (.iastore, 1) := by decide +kernel
theorem dX4_take_74 : decode cX4_take 74 = .ok (.iload 5, 2) := by decide +kernel
theorem dX4_take_76 : decode cX4_take 76 = .ok (.ireturn, 1) := by decide +kernel
theorem cd_33 (G : ZG) (d : Nat) (K : ZKt) (F : ZFt) (hT : zt5 G.2.2.2) : CS G RX4 cX4_take 6 d K (some .int) [] (fun _ => []) 0 (bd_33 G.2.2.2 K F) := by
  unfold bd_33
  exact (CS.seq 8 (CS.decI (CX.pure (CE.aldI (CE.getR (CE.aload_n rfl dX4_take_0 zhd) fs_X4_16 dX4_take_1 zhd) (CE.iload_n rfl dX4_take_4 zhd) (Or.inl ⟨rfl, dX4_take_5⟩) zhd)) (by decide) dX4_take_6 zhd)
  (CS.seq 16 (CS.if1 (T := 14) (F := 16) (CD.pure (CC.icmp_eq_F (T := 14) (F := 16) (CE.iload dX4_take_8 zhd) (CE.iload_n rfl dX4_take_10 zhd) dX4_take_11 rfl rfl)) (CS.retI (CX.pure (CE.iconst kI_m1 dX4_take_14 zhd)) dX4_take_15) zhd)
  (CS.seq 36 (CS.if1 (T := 26) (F := 36) (CD.pure (CC.if_ne_F (T := 26) (F := 36) (CE.callS (by decide) (CA.int (CE.iload dX4_take_16 zhd) (CA.int (CE.bipush kB_6 dX4_take_18 zhd) CA.nil)) zi_129 cs_X4_32 (fun _ => rfl) dX4_take_20 zhd) dX4_take_23 rfl rfl)) (CS.st (CE.aldR (CE.getR (CE.aload_n rfl dX4_take_26 zhd) fs_X4_11 dX4_take_27 zhd) (CE.iload dX4_take_30 zhd) dX4_take_32 zhd) (CX.pure (CE.iload_n rfl dX4_take_33 zhd)) (CX.pure (CE.iconst kI_m1 dX4_take_34 zhd)) (Or.inl ⟨rfl, dX4_take_35⟩) zhd) zhd)
  (CS.seq 49 (CS.decI (CX.callS (by decide) (CA.ref (CE.aldR (CE.getR (CE.aload_n rfl dX4_take_36 zhd) fs_X4_11 dX4_take_37 zhd) (CE.iload_n rfl dX4_take_40 zhd) dX4_take_41 zhd) (CA.int (CE.iload_n rfl dX4_take_42 zhd) (CA.int (CE.iload_n rfl dX4_take_43 zhd) CA.nil))) zi_131 cs_X4_36 (fun _ => rfl) dX4_take_44 zhd) (by decide) dX4_take_47 zhd)
  (CS.seq 67 (CS.if1 (T := 59) (F := 67) (CD.pure (CC.if_ne_F (T := 59) (F := 67) (CE.callS (by decide) (CA.int (CE.iload dX4_take_49 zhd) (CA.int (CE.bipush kB_24 dX4_take_51 zhd) CA.nil)) zi_129 cs_X4_32 (fun _ => rfl) dX4_take_53 zhd) dX4_take_56 rfl rfl)) (CS.st (CE.getR (CE.aload_n rfl dX4_take_59 zhd) fs_X4_16 dX4_take_60 zhd) (CX.pure (CE.iload dX4_take_63 zhd)) (CX.pure (CE.iconst kI_m1 dX4_take_65 zhd)) (Or.inl ⟨rfl, dX4_take_66⟩) zhd) zhd)
  (CS.seq 74 (CS.st (CE.getR (CE.aload_n rfl dX4_take_67 zhd) fs_X4_16 dX4_take_68 zhd) (CX.pure (CE.iload_n rfl dX4_take_71 zhd)) (CX.pure (CE.iload_n rfl dX4_take_72 zhd)) (Or.inl ⟨rfl, dX4_take_73⟩) zhd)
  (CS.retI (CX.pure (CE.iload dX4_take_74 zhd)) dX4_take_76)))))))
theorem dX4_looseOf_0 : decode cX4_looseOf 0 = .ok (.iconst 0, 1) := by decide +kernel
theorem dX4_looseOf_1 : decode cX4_looseOf 1 = .ok (.istore_n 2, 1) := by decide +kernel
theorem dX4_looseOf_2 : decode cX4_looseOf 2 = .ok (.iconst 0, 1) := by decide +kernel
theorem dX4_looseOf_3 : decode cX4_looseOf 3 = .ok (.istore_n 3, 1) := by decide +kernel
theorem dX4_looseOf_4 : decode cX4_looseOf 4 = .ok (.iload_n 3, 1) := by decide +kernel
theorem dX4_looseOf_5 : decode cX4_looseOf 5 = .ok (.iload_n 1, 1) := by decide +kernel
theorem dX4_looseOf_6 : decode cX4_looseOf 6 = .ok (.if_icmp .ge 28, 3) := by decide +kernel
theorem dX4_looseOf_9 : decode cX4_looseOf 9 = .ok (.iload_n 3, 1) := by decide +kernel
theorem dX4_looseOf_10 : decode cX4_looseOf 10 = .ok (.bipush 24, 2) := by decide +kernel
theorem dX4_looseOf_12 : decode cX4_looseOf 12 = .ok (.if_icmp .ge 22, 3) := by decide +kernel
theorem dX4_looseOf_15 : decode cX4_looseOf 15 = .ok (.aload_n 0, 1) := by decide +kernel
theorem dX4_looseOf_16 : decode cX4_looseOf 16 = .ok (.getfield 16, 3) := by decide +kernel
theorem dX4_looseOf_19 : decode cX4_looseOf 19 = .ok (.iload_n 3, 1) := by decide +kernel
theorem dX4_looseOf_20 : decode cX4_looseOf 20 = .ok (.iaload, 1) := by decide +kernel
theorem dX4_looseOf_21 : decode cX4_looseOf 21 = .ok (.iconst (-1), 1) := by decide +kernel
theorem dX4_looseOf_22 : decode cX4_looseOf 22 = .ok (.if_icmp .ne 6, 3) := by decide +kernel
theorem dX4_looseOf_25 : decode cX4_looseOf 25 = .ok (.iinc 2 1, 3) := by decide +kernel
theorem dX4_looseOf_28 : decode cX4_looseOf 28 = .ok (.iinc 3 1, 3) := by decide +kernel
theorem dX4_looseOf_31 : decode cX4_looseOf 31 = .ok (.goto (-27), 3) := by decide +kernel
theorem dX4_looseOf_34 : decode cX4_looseOf 34 = .ok (.iload_n 2, 1) := by decide +kernel
theorem dX4_looseOf_35 : decode cX4_looseOf 35 = .ok (.ireturn, 1) := by decide +kernel
theorem cd_34 (G : ZG) (d : Nat) (K : ZKt) (F : ZFt) (hT : zt5 G.2.2.2) : CS G RX4 cX4_looseOf 4 d K (some .int) [] (fun _ => []) 0 (bd_34 G.2.2.2 K F) := by
  unfold bd_34
  exact (CS.seq 2 (CS.decI_n (CX.pure (CE.iconst kI_0 dX4_looseOf_0 zhd)) rfl (by decide) dX4_looseOf_1 zhd)
  (CS.seq 34 (CS.scope (CS.seq 4 (CS.decI_n (CX.pure (CE.iconst kI_0 dX4_looseOf_2 zhd)) rfl (by decide) dX4_looseOf_3 zhd)
  (CS.whl (T := 15) (F := 34) (p1 := 31) (CD.pure (CC.and (CC.icmp_lt_F (T := 9) (F := 34) (CE.iload_n rfl dX4_looseOf_4 zhd) (CE.iload_n rfl dX4_looseOf_5 zhd) dX4_looseOf_6 rfl rfl) (CC.icmp_lt_F (T := 15) (F := 34) (CE.iload_n rfl dX4_looseOf_9 zhd) (CE.bipush kB_24 dX4_looseOf_10 zhd) dX4_looseOf_12 rfl rfl)))
  (CS.seq 28 (CS.if1 (T := 25) (F := 28) (CD.pure (CC.icmp_eq_F (T := 25) (F := 28) (CE.aldI (CE.getR (CE.aload_n rfl dX4_looseOf_15 zhd) fs_X4_16 dX4_looseOf_16 zhd) (CE.iload_n rfl dX4_looseOf_19 zhd) (Or.inl ⟨rfl, dX4_looseOf_20⟩) zhd) (CE.iconst kI_m1 dX4_looseOf_21 zhd) dX4_looseOf_22 rfl rfl)) (CS.inc kI_1 (by decide) dX4_looseOf_25 zhd) zhd)
  (CS.inc kI_1 (by decide) dX4_looseOf_28 zhd)) dX4_looseOf_31 rfl zhd)))
  (CS.retI (CX.pure (CE.iload_n rfl dX4_looseOf_34 zhd)) dX4_looseOf_35)))
theorem dX4_fitsChain_0 : decode cX4_fitsChain 0 = .ok (.iconst 0, 1) := by decide +kernel
theorem dX4_fitsChain_1 : decode cX4_fitsChain 1 = .ok (.istore 5, 2) := by decide +kernel
theorem dX4_fitsChain_3 : decode cX4_fitsChain 3 = .ok (.iconst 0, 1) := by decide +kernel
theorem dX4_fitsChain_4 : decode cX4_fitsChain 4 = .ok (.istore 6, 2) := by decide +kernel
theorem dX4_fitsChain_6 : decode cX4_fitsChain 6 = .ok (.iconst 0, 1) := by decide +kernel
theorem dX4_fitsChain_7 : decode cX4_fitsChain 7 = .ok (.istore 7, 2) := by decide +kernel
theorem dX4_fitsChain_9 : decode cX4_fitsChain 9 = .ok (.iload 7, 2) := by decide +kernel
theorem dX4_fitsChain_11 : decode cX4_fitsChain 11 = .ok (.aload_n 3, 1) := by decide +kernel
theorem dX4_fitsChain_12 : decode cX4_fitsChain 12 = .ok (.getfield 40, 3) := by decide +kernel
theorem dX4_fitsChain_15 : decode cX4_fitsChain 15 = .ok (.iload_n 2, 1) := by decide +kernel
theorem dX4_fitsChain_16 : decode cX4_fitsChain 16 = .ok (.iaload, 1) := by decide +kernel
theorem dX4_fitsChain_17 : decode cX4_fitsChain 17 = .ok (.if_icmp .ge 131, 3) := by decide +kernel
theorem dX4_fitsChain_20 : decode cX4_fitsChain 20 = .ok (.aload_n 0, 1) := by decide +kernel
theorem dX4_fitsChain_21 : decode cX4_fitsChain 21 = .ok (.getfield 11, 3) := by decide +kernel
theorem dX4_fitsChain_24 : decode cX4_fitsChain 24 = .ok (.iload_n 1, 1) := by decide +kernel
theorem dX4_fitsChain_25 : decode cX4_fitsChain 25 = .ok (.aaload, 1) := by decide +kernel
theorem dX4_fitsChain_26 : decode cX4_fitsChain 26 = .ok (.aload_n 3, 1) := by decide +kernel
theorem dX4_fitsChain_27 : decode cX4_fitsChain 27 = .ok (.getfield 45, 3) := by decide +kernel
theorem dX4_fitsChain_30 : decode cX4_fitsChain 30 = .ok (.iload_n 2, 1) := by decide +kernel
theorem dX4_fitsChain_31 : decode cX4_fitsChain 31 = .ok (.aaload, 1) := by decide +kernel
theorem dX4_fitsChain_32 : decode cX4_fitsChain 32 = .ok (.iload 7, 2) := by decide +kernel
theorem dX4_fitsChain_34 : decode cX4_fitsChain 34 = .ok (.iaload, 1) := by decide +kernel
theorem dX4_fitsChain_35 : decode cX4_fitsChain 35 = .ok (.iaload, 1) := by decide +kernel
theorem dX4_fitsChain_36 : decode cX4_fitsChain 36 = .ok (.istore 8, 2) := by decide +kernel
theorem dX4_fitsChain_38 : decode cX4_fitsChain 38 = .ok (.iload 8, 2) := by decide +kernel
theorem dX4_fitsChain_40 : decode cX4_fitsChain 40 = .ok (.aload 4, 2) := by decide +kernel
theorem dX4_fitsChain_42 : decode cX4_fitsChain 42 = .ok (.getfield 48, 3) := by decide +kernel
theorem dX4_fitsChain_45 : decode cX4_fitsChain 45 = .ok (.invokestatic 32, 3) := by decide +kernel
theorem dX4_fitsChain_48 : decode cX4_fitsChain 48 = .ok (.ifCond .eq 13, 3) := by decide +kernel
theorem dX4_fitsChain_51 : decode cX4_fitsChain 51 = .ok (.aload 4, 2) := by decide +kernel
theorem dX4_fitsChain_53 : decode cX4_fitsChain 53 = .ok (.iload 8, 2) := by decide +kernel
theorem dX4_fitsChain_55 : decode cX4_fitsChain 55 = .ok (.invokevirtual 54, 3) := by decide +kernel
theorem dX4_fitsChain_58 : decode cX4_fitsChain 58 = .ok (.ifCond .ne 5, 3) := by decide +kernel
theorem dX4_fitsChain_61 : decode cX4_fitsChain 61 = .ok (.iconst 0, 1) := by decide +kernel
theorem dX4_fitsChain_62 : decode cX4_fitsChain 62 = .ok (.ireturn, 1) := by decide +kernel
theorem dX4_fitsChain_63 : decode cX4_fitsChain 63 = .ok (.aload_n 3, 1) := by decide +kernel
theorem dX4_fitsChain_64 : decode cX4_fitsChain 64 = .ok (.getfield 58, 3) := by decide +kernel
theorem dX4_fitsChain_67 : decode cX4_fitsChain 67 = .ok (.iload_n 2, 1) := by decide +kernel
theorem dX4_fitsChain_68 : decode cX4_fitsChain 68 = .ok (.aaload, 1) := by decide +kernel
theorem dX4_fitsChain_69 : decode cX4_fitsChain 69 = .ok (.iload 7, 2) := by decide +kernel
theorem dX4_fitsChain_71 : decode cX4_fitsChain 71 = .ok (.iaload, 1) := by decide +kernel
theorem dX4_fitsChain_72 : decode cX4_fitsChain 72 = .ok (.ifCond .ge 7, 3) := by decide +kernel
theorem dX4_fitsChain_75 : decode cX4_fitsChain 75 = .ok (.iconst 1, 1) := by decide +kernel
theorem dX4_fitsChain_76 : decode cX4_fitsChain 76 = .ok (.goto 4, 3) := by decide +kernel
theorem dX4_fitsChain_79 : decode cX4_fitsChain 79 = .ok (.iconst 0, 1) := by decide +kernel
theorem dX4_fitsChain_80 : decode cX4_fitsChain 80 = .ok (.istore 9, 2) := by decide +kernel
theorem dX4_fitsChain_82 : decode cX4_fitsChain 82 = .ok (.iload 5, 2) := by decide +kernel
theorem dX4_fitsChain_84 : decode cX4_fitsChain 84 = .ok (.iload 9, 2) := by decide +kernel
theorem dX4_fitsChain_86 : decode cX4_fitsChain 86 = .ok (.ifCond .eq 15, 3) := by decide +kernel
theorem dX4_fitsChain_89 : decode cX4_fitsChain 89 = .ok (.aload 4, 2) := by decide +kernel
theorem dX4_fitsChain_91 : decode cX4_fitsChain 91 = .ok (.getfield 61, 3) := by decide +kernel
theorem dX4_fitsChain_94 : decode cX4_fitsChain 94 = .ok (.iload 8, 2) := by decide +kernel
theorem dX4_fitsChain_96 : decode cX4_fitsChain 96 = .ok (.iaload, 1) := by decide +kernel
theorem dX4_fitsChain_97 : decode cX4_fitsChain 97 = .ok (.ineg, 1) := by decide +kernel
theorem dX4_fitsChain_98 : decode cX4_fitsChain 98 = .ok (.goto 11, 3) := by decide +kernel
theorem dX4_fitsChain_101 : decode cX4_fitsChain 101 = .ok (.aload 4, 2) := by decide +kernel
theorem dX4_fitsChain_103 : decode cX4_fitsChain 103 = .ok (.getfield 64, 3) := by decide +kernel
theorem dX4_fitsChain_106 : decode cX4_fitsChain 106 = .ok (.iload 8, 2) := by decide +kernel
theorem dX4_fitsChain_108 : decode cX4_fitsChain 108 = .ok (.iaload, 1) := by decide +kernel
theorem dX4_fitsChain_109 : decode cX4_fitsChain 109 = .ok (.iadd, 1) := by decide +kernel
theorem dX4_fitsChain_110 : decode cX4_fitsChain 110 = .ok (.istore 5, 2) := by decide +kernel
theorem dX4_fitsChain_112 : decode cX4_fitsChain 112 = .ok (.iload 6, 2) := by decide +kernel
theorem dX4_fitsChain_114 : decode cX4_fitsChain 114 = .ok (.iload 9, 2) := by decide +kernel
theorem dX4_fitsChain_116 : decode cX4_fitsChain 116 = .ok (.ifCond .eq 15, 3) := by decide +kernel
theorem dX4_fitsChain_119 : decode cX4_fitsChain 119 = .ok (.aload 4, 2) := by decide +kernel
theorem dX4_fitsChain_121 : decode cX4_fitsChain 121 = .ok (.getfield 64, 3) := by decide +kernel
theorem dX4_fitsChain_124 : decode cX4_fitsChain 124 = .ok (.iload 8, 2) := by decide +kernel
theorem dX4_fitsChain_126 : decode cX4_fitsChain 126 = .ok (.iaload, 1) := by decide +kernel
theorem dX4_fitsChain_127 : decode cX4_fitsChain 127 = .ok (.ineg, 1) := by decide +kernel
theorem dX4_fitsChain_128 : decode cX4_fitsChain 128 = .ok (.goto 11, 3) := by decide +kernel
theorem dX4_fitsChain_131 : decode cX4_fitsChain 131 = .ok (.aload 4, 2) := by decide +kernel
theorem dX4_fitsChain_133 : decode cX4_fitsChain 133 = .ok (.getfield 61, 3) := by decide +kernel
theorem dX4_fitsChain_136 : decode cX4_fitsChain 136 = .ok (.iload 8, 2) := by decide +kernel
theorem dX4_fitsChain_138 : decode cX4_fitsChain 138 = .ok (.iaload, 1) := by decide +kernel
theorem dX4_fitsChain_139 : decode cX4_fitsChain 139 = .ok (.iadd, 1) := by decide +kernel
theorem dX4_fitsChain_140 : decode cX4_fitsChain 140 = .ok (.istore 6, 2) := by decide +kernel
theorem dX4_fitsChain_142 : decode cX4_fitsChain 142 = .ok (.iinc 7 1, 3) := by decide +kernel
theorem dX4_fitsChain_145 : decode cX4_fitsChain 145 = .ok (.goto (-136), 3) := by decide +kernel
theorem dX4_fitsChain_148 : decode cX4_fitsChain 148 = .ok (.iload 5, 2) := by decide +kernel
theorem dX4_fitsChain_150 : decode cX4_fitsChain 150 = .ok (.aload_n 3, 1) := by decide +kernel
theorem dX4_fitsChain_151 : decode cX4_fitsChain 151 = .ok (.getfield 67, 3) := by decide +kernel
theorem dX4_fitsChain_154 : decode cX4_fitsChain 154 = .ok (.iload_n 2, 1) := by decide +kernel
theorem dX4_fitsChain_155 : decode cX4_fitsChain 155 = .ok (.iaload, 1) := by decide +kernel
theorem dX4_fitsChain_156 : decode cX4_fitsChain 156 = .ok (.if_icmp .lt 18, 3) := by decide +kernel
theorem dX4_fitsChain_159 : decode cX4_fitsChain 159 = .ok (.iload 6, 2) := by decide +kernel
theorem dX4_fitsChain_161 : decode cX4_fitsChain 161 = .ok (.aload_n 3, 1) := by decide +kernel
theorem dX4_fitsChain_162 : decode cX4_fitsChain 162 = .ok (.getfield 70, 3) := by decide +kernel
theorem dX4_fitsChain_165 : decode cX4_fitsChain 165 = .ok (.iload_n 2, 1) := by decide +kernel
theorem dX4_fitsChain_166 : decode cX4_fitsChain 166 = .ok (.iaload, 1) := by decide +kernel
theorem dX4_fitsChain_167 : decode cX4_fitsChain 167 = .ok (.if_icmp .gt 7, 3) := by decide +kernel
theorem dX4_fitsChain_170 : decode cX4_fitsChain 170 = .ok (.iconst 1, 1) := by decide +kernel
theorem dX4_fitsChain_171 : decode cX4_fitsChain 171 = .ok (.goto 4, 3) := by decide +kernel
theorem dX4_fitsChain_174 : decode cX4_fitsChain 174 = .ok (.iconst 0, 1) := by decide +kernel
theorem dX4_fitsChain_175 : decode cX4_fitsChain 175 = .ok (.ireturn, 1) := by decide +kernel
theorem cd_35 (G : ZG) (d : Nat) (K : ZKt) (F : ZFt) (hT : zt5 G.2.2.2) : CS G RX4 cX4_fitsChain 10 d K (some .boolean) [] (fun _ => []) 0 (bd_35 G.2.2.2 K F) := by
  unfold bd_35
  exact (CS.seq 3 (CS.decI (CX.pure (CE.iconst kI_0 dX4_fitsChain_0 zhd)) (by decide) dX4_fitsChain_1 zhd)
  (CS.seq 6 (CS.decI (CX.pure (CE.iconst kI_0 dX4_fitsChain_3 zhd)) (by decide) dX4_fitsChain_4 zhd)
  (CS.seq 148 (CS.scope (CS.seq 9 (CS.decI (CX.pure (CE.iconst kI_0 dX4_fitsChain_6 zhd)) (by decide) dX4_fitsChain_7 zhd)
  (CS.whl (T := 20) (F := 148) (p1 := 145) (CD.pure (CC.icmp_lt_F (T := 20) (F := 148) (CE.iload dX4_fitsChain_9 zhd) (CE.aldI (CE.getR (CE.aload_n rfl dX4_fitsChain_11 zhd) fs_X4_40 dX4_fitsChain_12 zhd) (CE.iload_n rfl dX4_fitsChain_15 zhd) (Or.inl ⟨rfl, dX4_fitsChain_16⟩) zhd) dX4_fitsChain_17 rfl rfl))
  (CS.seq 142 (CS.scope (CS.seq 38 (CS.decI (CX.pure (CE.aldI (CE.aldR (CE.getR (CE.aload_n rfl dX4_fitsChain_20 zhd) fs_X4_11 dX4_fitsChain_21 zhd) (CE.iload_n rfl dX4_fitsChain_24 zhd) dX4_fitsChain_25 zhd) (CE.aldI (CE.aldR (CE.getR (CE.aload_n rfl dX4_fitsChain_26 zhd) fs_X4_45 dX4_fitsChain_27 zhd) (CE.iload_n rfl dX4_fitsChain_30 zhd) dX4_fitsChain_31 zhd) (CE.iload dX4_fitsChain_32 zhd) (Or.inl ⟨rfl, dX4_fitsChain_34⟩) zhd) (Or.inl ⟨rfl, dX4_fitsChain_35⟩) zhd)) (by decide) dX4_fitsChain_36 zhd)
  (CS.seq 63 (CS.if1 (T := 61) (F := 63) (CD.pure (CC.or (CC.not (CC.if_ne_F (T := 51) (F := 61) (CE.callS (by decide) (CA.int (CE.iload dX4_fitsChain_38 zhd) (CA.int (CE.getI (CE.aload dX4_fitsChain_40 zhd) fs_X4_48 dX4_fitsChain_42 zhd) CA.nil)) zi_129 cs_X4_32 (fun _ => rfl) dX4_fitsChain_45 zhd) dX4_fitsChain_48 rfl rfl)) (CC.not (CC.if_ne_T (T := 63) (F := 61) (CE.callV (by decide) (CA.ref (CE.aload dX4_fitsChain_51 zhd) (CA.int (CE.iload dX4_fitsChain_53 zhd) CA.nil)) zi_81 cv_X4_54 (fun _ => rfl) dX4_fitsChain_55 zhd) dX4_fitsChain_58 rfl rfl)))) (CS.retZ (CX.pure (CE.iconst kI_0 dX4_fitsChain_61 zhd)) dX4_fitsChain_62) zhd)
  (CS.seq 82 (CS.decI (CX.pure (CE.bool (T := 75) (F := 79) (q := 80) (CC.if_lt_F (T := 75) (F := 79) (CE.aldI (CE.aldR (CE.getR (CE.aload_n rfl dX4_fitsChain_63 zhd) fs_X4_58 dX4_fitsChain_64 zhd) (CE.iload_n rfl dX4_fitsChain_67 zhd) dX4_fitsChain_68 zhd) (CE.iload dX4_fitsChain_69 zhd) (Or.inl ⟨rfl, dX4_fitsChain_71⟩) zhd) dX4_fitsChain_72 rfl rfl) dX4_fitsChain_75 rfl dX4_fitsChain_76 rfl zhd dX4_fitsChain_79 zhd)) (by decide) dX4_fitsChain_80 zhd)
  (CS.seq 112 (CS.setI (CX.pure (CE.iadd (CE.iload dX4_fitsChain_82 zhd) (CE.tern (T := 89) (F := 101) (p1 := 98) (q := 109) (CC.if_ne_F (T := 89) (F := 101) (CE.iload dX4_fitsChain_84 zhd) dX4_fitsChain_86 rfl rfl) (CE.ineg (CE.aldI (CE.getR (CE.aload dX4_fitsChain_89 zhd) fs_X4_61 dX4_fitsChain_91 zhd) (CE.iload dX4_fitsChain_94 zhd) (Or.inl ⟨rfl, dX4_fitsChain_96⟩) zhd) dX4_fitsChain_97 zhd) zex2 dX4_fitsChain_98 rfl zhd (CE.aldI (CE.getR (CE.aload dX4_fitsChain_101 zhd) fs_X4_64 dX4_fitsChain_103 zhd) (CE.iload dX4_fitsChain_106 zhd) (Or.inl ⟨rfl, dX4_fitsChain_108⟩) zhd)) dX4_fitsChain_109 zhd)) (by decide) dX4_fitsChain_110 zhd)
  (CS.setI (CX.pure (CE.iadd (CE.iload dX4_fitsChain_112 zhd) (CE.tern (T := 119) (F := 131) (p1 := 128) (q := 139) (CC.if_ne_F (T := 119) (F := 131) (CE.iload dX4_fitsChain_114 zhd) dX4_fitsChain_116 rfl rfl) (CE.ineg (CE.aldI (CE.getR (CE.aload dX4_fitsChain_119 zhd) fs_X4_64 dX4_fitsChain_121 zhd) (CE.iload dX4_fitsChain_124 zhd) (Or.inl ⟨rfl, dX4_fitsChain_126⟩) zhd) dX4_fitsChain_127 zhd) zex2 dX4_fitsChain_128 rfl zhd (CE.aldI (CE.getR (CE.aload dX4_fitsChain_131 zhd) fs_X4_61 dX4_fitsChain_133 zhd) (CE.iload dX4_fitsChain_136 zhd) (Or.inl ⟨rfl, dX4_fitsChain_138⟩) zhd)) dX4_fitsChain_139 zhd)) (by decide) dX4_fitsChain_140 zhd))))))
  (CS.inc kI_1 (by decide) dX4_fitsChain_142 zhd)) dX4_fitsChain_145 rfl zhd)))
  (CS.retZ (CX.pure (CE.bool (T := 170) (F := 174) (q := 175) (CC.and (CC.icmp_ge_F (T := 159) (F := 174) (CE.iload dX4_fitsChain_148 zhd) (CE.aldI (CE.getR (CE.aload_n rfl dX4_fitsChain_150 zhd) fs_X4_67 dX4_fitsChain_151 zhd) (CE.iload_n rfl dX4_fitsChain_154 zhd) (Or.inl ⟨rfl, dX4_fitsChain_155⟩) zhd) dX4_fitsChain_156 rfl rfl) (CC.icmp_le_F (T := 170) (F := 174) (CE.iload dX4_fitsChain_159 zhd) (CE.aldI (CE.getR (CE.aload_n rfl dX4_fitsChain_161 zhd) fs_X4_70 dX4_fitsChain_162 zhd) (CE.iload_n rfl dX4_fitsChain_165 zhd) (Or.inl ⟨rfl, dX4_fitsChain_166⟩) zhd) dX4_fitsChain_167 rfl rfl)) dX4_fitsChain_170 rfl dX4_fitsChain_171 rfl zhd dX4_fitsChain_174 zhd)) dX4_fitsChain_175))))
theorem dX4_isRight_0 : decode cX4_isRight 0 = .ok (.iconst 0, 1) := by decide +kernel
theorem dX4_isRight_1 : decode cX4_isRight 1 = .ok (.istore 4, 2) := by decide +kernel
theorem dX4_isRight_3 : decode cX4_isRight 3 = .ok (.iload 4, 2) := by decide +kernel
theorem dX4_isRight_5 : decode cX4_isRight 5 = .ok (.aload_n 2, 1) := by decide +kernel
theorem dX4_isRight_6 : decode cX4_isRight 6 = .ok (.getfield 73, 3) := by decide +kernel
theorem dX4_isRight_9 : decode cX4_isRight 9 = .ok (.if_icmp .ge 23, 3) := by decide +kernel
theorem dX4_isRight_12 : decode cX4_isRight 12 = .ok (.aload_n 0, 1) := by decide +kernel
theorem dX4_isRight_13 : decode cX4_isRight 13 = .ok (.iload_n 1, 1) := by decide +kernel
theorem dX4_isRight_14 : decode cX4_isRight 14 = .ok (.iload 4, 2) := by decide +kernel
theorem dX4_isRight_16 : decode cX4_isRight 16 = .ok (.aload_n 2, 1) := by decide +kernel
theorem dX4_isRight_17 : decode cX4_isRight 17 = .ok (.aload_n 3, 1) := by decide +kernel
theorem dX4_isRight_18 : decode cX4_isRight 18 = .ok (.invokevirtual 74, 3) := by decide +kernel
theorem dX4_isRight_21 : decode cX4_isRight 21 = .ok (.ifCond .ne 5, 3) := by decide +kernel
theorem dX4_isRight_24 : decode cX4_isRight 24 = .ok (.iconst 0, 1) := by decide +kernel
theorem dX4_isRight_25 : decode cX4_isRight 25 = .ok (.ireturn, 1) := by decide +kernel
theorem dX4_isRight_26 : decode cX4_isRight 26 = .ok (.iinc 4 1, 3) := by decide +kernel
theorem dX4_isRight_29 : decode cX4_isRight 29 = .ok (.goto (-26), 3) := by decide +kernel
theorem dX4_isRight_32 : decode cX4_isRight 32 = .ok (.iconst 1, 1) := by decide +kernel
theorem dX4_isRight_33 : decode cX4_isRight 33 = .ok (.ireturn, 1) := by decide +kernel
theorem cd_36 (G : ZG) (d : Nat) (K : ZKt) (F : ZFt) (hT : zt5 G.2.2.2) : CS G RX4 cX4_isRight 5 d K (some .boolean) [] (fun _ => []) 0 (bd_36 G.2.2.2 K F) := by
  unfold bd_36
  exact (CS.seq 32 (CS.scope (CS.seq 3 (CS.decI (CX.pure (CE.iconst kI_0 dX4_isRight_0 zhd)) (by decide) dX4_isRight_1 zhd)
  (CS.whl (T := 12) (F := 32) (p1 := 29) (CD.pure (CC.icmp_lt_F (T := 12) (F := 32) (CE.iload dX4_isRight_3 zhd) (CE.getI (CE.aload_n rfl dX4_isRight_5 zhd) fs_X4_73 dX4_isRight_6 zhd) dX4_isRight_9 rfl rfl))
  (CS.seq 26 (CS.if1 (T := 24) (F := 26) (CD.pure (CC.not (CC.if_ne_T (T := 26) (F := 24) (CE.callV (by decide) (CA.ref (CE.aload_n rfl dX4_isRight_12 zhd) (CA.int (CE.iload_n rfl dX4_isRight_13 zhd) (CA.int (CE.iload dX4_isRight_14 zhd) (CA.ref (CE.aload_n rfl dX4_isRight_16 zhd) (CA.ref (CE.aload_n rfl dX4_isRight_17 zhd) CA.nil))))) zi_35 cv_X4_74 (fun _ => rfl) dX4_isRight_18 zhd) dX4_isRight_21 rfl rfl))) (CS.retZ (CX.pure (CE.iconst kI_0 dX4_isRight_24 zhd)) dX4_isRight_25) zhd)
  (CS.inc kI_1 (by decide) dX4_isRight_26 zhd)) dX4_isRight_29 rfl zhd)))
  (CS.retZ (CX.pure (CE.iconst kI_1 dX4_isRight_32 zhd)) dX4_isRight_33))
theorem dX4_rightOnes_0 : decode cX4_rightOnes 0 = .ok (.iconst 0, 1) := by decide +kernel
theorem dX4_rightOnes_1 : decode cX4_rightOnes 1 = .ok (.istore_n 3, 1) := by decide +kernel
theorem dX4_rightOnes_2 : decode cX4_rightOnes 2 = .ok (.iconst 0, 1) := by decide +kernel
theorem dX4_rightOnes_3 : decode cX4_rightOnes 3 = .ok (.istore 4, 2) := by decide +kernel
theorem dX4_rightOnes_5 : decode cX4_rightOnes 5 = .ok (.iload 4, 2) := by decide +kernel
theorem dX4_rightOnes_7 : decode cX4_rightOnes 7 = .ok (.bipush 6, 2) := by decide +kernel
theorem dX4_rightOnes_9 : decode cX4_rightOnes 9 = .ok (.if_icmp .ge 27, 3) := by decide +kernel
theorem dX4_rightOnes_12 : decode cX4_rightOnes 12 = .ok (.aload_n 0, 1) := by decide +kernel
theorem dX4_rightOnes_13 : decode cX4_rightOnes 13 = .ok (.iload 4, 2) := by decide +kernel
theorem dX4_rightOnes_15 : decode cX4_rightOnes 15 = .ok (.aload_n 1, 1) := by decide +kernel
theorem dX4_rightOnes_16 : decode cX4_rightOnes 16 = .ok (.aload_n 2, 1) := by decide +kernel
theorem dX4_rightOnes_17 : decode cX4_rightOnes 17 = .ok (.invokevirtual 78, 3) := by decide +kernel
theorem dX4_rightOnes_20 : decode cX4_rightOnes 20 = .ok (.ifCond .eq 10, 3) := by decide +kernel
theorem dX4_rightOnes_23 : decode cX4_rightOnes 23 = .ok (.iload_n 3, 1) := by decide +kernel
theorem dX4_rightOnes_24 : decode cX4_rightOnes 24 = .ok (.iconst 1, 1) := by decide +kernel
theorem dX4_rightOnes_25 : decode cX4_rightOnes 25 = .ok (.iload 4, 2) := by decide +kernel
theorem dX4_rightOnes_27 : decode cX4_rightOnes 27 = .ok (.ishl, 1) := by decide +kernel
theorem dX4_rightOnes_28 : decode cX4_rightOnes 28 = .ok (.ior, 1) := by decide +kernel
theorem dX4_rightOnes_29 : decode cX4_rightOnes 29 = .ok (.istore_n 3, 1) := by decide +kernel
theorem dX4_rightOnes_30 : decode cX4_rightOnes 30 = .ok (.iinc 4 1, 3) := by decide +kernel
theorem dX4_rightOnes_33 : decode cX4_rightOnes 33 = .ok (.goto (-28), 3) := by decide +kernel
theorem dX4_rightOnes_36 : decode cX4_rightOnes 36 = .ok (.iload_n 3, 1) := by decide +kernel
theorem dX4_rightOnes_37 : decode cX4_rightOnes 37 = .ok (.ireturn, 1) := by decide +kernel
theorem cd_37 (G : ZG) (d : Nat) (K : ZKt) (F : ZFt) (hT : zt5 G.2.2.2) : CS G RX4 cX4_rightOnes 5 d K (some .int) [] (fun _ => []) 0 (bd_37 G.2.2.2 K F) := by
  unfold bd_37
  exact (CS.seq 2 (CS.decI_n (CX.pure (CE.iconst kI_0 dX4_rightOnes_0 zhd)) rfl (by decide) dX4_rightOnes_1 zhd)
  (CS.seq 36 (CS.scope (CS.seq 5 (CS.decI (CX.pure (CE.iconst kI_0 dX4_rightOnes_2 zhd)) (by decide) dX4_rightOnes_3 zhd)
  (CS.whl (T := 12) (F := 36) (p1 := 33) (CD.pure (CC.icmp_lt_F (T := 12) (F := 36) (CE.iload dX4_rightOnes_5 zhd) (CE.bipush kB_6 dX4_rightOnes_7 zhd) dX4_rightOnes_9 rfl rfl))
  (CS.seq 30 (CS.if1 (T := 23) (F := 30) (CD.pure (CC.if_ne_F (T := 23) (F := 30) (CE.callV (by decide) (CA.ref (CE.aload_n rfl dX4_rightOnes_12 zhd) (CA.int (CE.iload dX4_rightOnes_13 zhd) (CA.ref (CE.aload_n rfl dX4_rightOnes_15 zhd) (CA.ref (CE.aload_n rfl dX4_rightOnes_16 zhd) CA.nil)))) zi_36 cv_X4_78 (fun _ => rfl) dX4_rightOnes_17 zhd) dX4_rightOnes_20 rfl rfl)) (CS.setI_n (CX.pure (CE.ior (CE.iload_n rfl dX4_rightOnes_23 zhd) (CE.ishl (CE.iconst kI_1 dX4_rightOnes_24 zhd) (CE.iload dX4_rightOnes_25 zhd) dX4_rightOnes_27 zhd) dX4_rightOnes_28 zhd)) rfl (by decide) dX4_rightOnes_29 zhd) zhd)
  (CS.inc kI_1 (by decide) dX4_rightOnes_30 zhd)) dX4_rightOnes_33 rfl zhd)))
  (CS.retI (CX.pure (CE.iload_n rfl dX4_rightOnes_36 zhd)) dX4_rightOnes_37)))
theorem dX4_findSwap_0 : decode cX4_findSwap 0 = .ok (.aload_n 0, 1) := by decide +kernel
theorem dX4_findSwap_1 : decode cX4_findSwap 1 = .ok (.aload_n 1, 1) := by decide +kernel
theorem dX4_findSwap_2 : decode cX4_findSwap 2 = .ok (.aload_n 2, 1) := by decide +kernel
theorem dX4_findSwap_3 : decode cX4_findSwap 3 = .ok (.invokevirtual 82, 3) := by decide +kernel
theorem dX4_findSwap_6 : decode cX4_findSwap 6 = .ok (.istore_n 3, 1) := by decide +kernel
theorem dX4_findSwap_7 : decode cX4_findSwap 7 = .ok (.iconst 0, 1) := by decide +kernel
theorem dX4_findSwap_8 : decode cX4_findSwap 8 = .ok (.istore 4, 2) := by decide +kernel
theorem dX4_findSwap_10 : decode cX4_findSwap 10 = .ok (.iload 4, 2) := by decide +kernel
theorem dX4_findSwap_12 : decode cX4_findSwap 12 = .ok (.bipush 8, 2) := by decide +kernel
theorem dX4_findSwap_14 : decode cX4_findSwap 14 = .ok (.if_icmp .ge 108, 3) := by decide +kernel
theorem dX4_findSwap_17 : decode cX4_findSwap 17 = .ok (.iconst 0, 1) := by decide +kernel
theorem dX4_findSwap_18 : decode cX4_findSwap 18 = .ok (.istore 5, 2) := by decide +kernel
theorem dX4_findSwap_20 : decode cX4_findSwap 20 = .ok (.iload 5, 2) := by decide +kernel
theorem dX4_findSwap_22 : decode cX4_findSwap 22 = .ok (.bipush 6, 2) := by decide +kernel
theorem dX4_findSwap_24 : decode cX4_findSwap 24 = .ok (.if_icmp .ge 92, 3) := by decide +kernel
theorem dX4_findSwap_27 : decode cX4_findSwap 27 = .ok (.iload 5, 2) := by decide +kernel
theorem dX4_findSwap_29 : decode cX4_findSwap 29 = .ok (.iconst 1, 1) := by decide +kernel
theorem dX4_findSwap_30 : decode cX4_findSwap 30 = .ok (.iadd, 1) := by decide +kernel
theorem dX4_findSwap_31 : decode cX4_findSwap 31 = .ok (.istore 6, 2) := by decide +kernel
theorem dX4_findSwap_33 : decode cX4_findSwap 33 = .ok (.iload 6, 2) := by decide +kernel
theorem dX4_findSwap_35 : decode cX4_findSwap 35 = .ok (.bipush 6, 2) := by decide +kernel
theorem dX4_findSwap_37 : decode cX4_findSwap 37 = .ok (.if_icmp .ge 73, 3) := by decide +kernel
theorem dX4_findSwap_40 : decode cX4_findSwap 40 = .ok (.iload_n 3, 1) := by decide +kernel
theorem dX4_findSwap_41 : decode cX4_findSwap 41 = .ok (.iload 5, 2) := by decide +kernel
theorem dX4_findSwap_43 : decode cX4_findSwap 43 = .ok (.ishr, 1) := by decide +kernel
theorem dX4_findSwap_44 : decode cX4_findSwap 44 = .ok (.iload_n 3, 1) := by decide +kernel
theorem dX4_findSwap_45 : decode cX4_findSwap 45 = .ok (.iload 6, 2) := by decide +kernel
theorem dX4_findSwap_47 : decode cX4_findSwap 47 = .ok (.ishr, 1) := by decide +kernel
theorem dX4_findSwap_48 : decode cX4_findSwap 48 = .ok (.iand, 1) := by decide +kernel
theorem dX4_findSwap_49 : decode cX4_findSwap 49 = .ok (.iconst 1, 1) := by decide +kernel
theorem dX4_findSwap_50 : decode cX4_findSwap 50 = .ok (.iand, 1) := by decide +kernel
theorem dX4_findSwap_51 : decode cX4_findSwap 51 = .ok (.ifCond .eq 7, 3) := by decide +kernel
theorem dX4_findSwap_54 : decode cX4_findSwap 54 = .ok (.iconst 1, 1) := by decide +kernel
theorem dX4_findSwap_55 : decode cX4_findSwap 55 = .ok (.goto 4, 3) := by decide +kernel
theorem dX4_findSwap_58 : decode cX4_findSwap 58 = .ok (.iconst 0, 1) := by decide +kernel
theorem dX4_findSwap_59 : decode cX4_findSwap 59 = .ok (.istore 7, 2) := by decide +kernel
theorem dX4_findSwap_61 : decode cX4_findSwap 61 = .ok (.iload 7, 2) := by decide +kernel
theorem dX4_findSwap_63 : decode cX4_findSwap 63 = .ok (.ifCond .ne 41, 3) := by decide +kernel
theorem dX4_findSwap_66 : decode cX4_findSwap 66 = .ok (.aload_n 0, 1) := by decide +kernel
theorem dX4_findSwap_67 : decode cX4_findSwap 67 = .ok (.iload 4, 2) := by decide +kernel
theorem dX4_findSwap_69 : decode cX4_findSwap 69 = .ok (.iload 5, 2) := by decide +kernel
theorem dX4_findSwap_71 : decode cX4_findSwap 71 = .ok (.iload 6, 2) := by decide +kernel
theorem dX4_findSwap_73 : decode cX4_findSwap 73 = .ok (.aload_n 1, 1) := by decide +kernel
theorem dX4_findSwap_74 : decode cX4_findSwap 74 = .ok (.aload_n 2, 1) := by decide +kernel
theorem dX4_findSwap_75 : decode cX4_findSwap 75 = .ok (.invokevirtual 86, 3) := by decide +kernel
theorem dX4_findSwap_78 : decode cX4_findSwap 78 = .ok (.ifCond .ne 6, 3) := by decide +kernel
theorem dX4_findSwap_81 : decode cX4_findSwap 81 = .ok (.goto 23, 3) := by decide +kernel
theorem dX4_findSwap_84 : decode cX4_findSwap 84 = .ok (.aload_n 0, 1) := by decide +kernel
theorem dX4_findSwap_85 : decode cX4_findSwap 85 = .ok (.iload 4, 2) := by decide +kernel
theorem dX4_findSwap_87 : decode cX4_findSwap 87 = .ok (.putfield 90, 3) := by decide +kernel
theorem dX4_findSwap_90 : decode cX4_findSwap 90 = .ok (.aload_n 0, 1) := by decide +kernel
theorem dX4_findSwap_91 : decode cX4_findSwap 91 = .ok (.iload 5, 2) := by decide +kernel
theorem dX4_findSwap_93 : decode cX4_findSwap 93 = .ok (.putfield 93, 3) := by decide +kernel
theorem dX4_findSwap_96 : decode cX4_findSwap 96 = .ok (.aload_n 0, 1) := by decide +kernel
theorem dX4_findSwap_97 : decode cX4_findSwap 97 = .ok (.iload 6, 2) := by decide +kernel
theorem dX4_findSwap_99 : decode cX4_findSwap 99 = .ok (.putfield 96, 3) := by decide +kernel
theorem dX4_findSwap_102 : decode cX4_findSwap 102 = .ok (.iconst 1, 1) := by decide +kernel
theorem dX4_findSwap_103 : decode cX4_findSwap 103 = .ok (.ireturn, 1) := by decide +kernel
theorem dX4_findSwap_104 : decode cX4_findSwap 104 = .ok (.iinc 6 1, 3) := by decide +kernel
theorem dX4_findSwap_107 : decode cX4_findSwap 107 = .ok (.goto (-74), 3) := by decide +kernel
theorem dX4_findSwap_110 : decode cX4_findSwap 110 = .ok (.iinc 5 1, 3) := by decide +kernel
theorem dX4_findSwap_113 : decode cX4_findSwap 113 = .ok (.goto (-93), 3) := by decide +kernel
theorem dX4_findSwap_116 : decode cX4_findSwap 116 = .ok (.iinc 4 1, 3) := by decide +kernel
theorem dX4_findSwap_119 : decode cX4_findSwap 119 = .ok (.goto (-109), 3) := by decide +kernel
theorem dX4_findSwap_122 : decode cX4_findSwap 122 = .ok (.iconst 0, 1) := by decide +kernel
theorem dX4_findSwap_123 : decode cX4_findSwap 123 = .ok (.ireturn, 1) := by decide +kernel
theorem cd_38 (G : ZG) (d : Nat) (K : ZKt) (F : ZFt) (hT : zt5 G.2.2.2) : CS G RX4 cX4_findSwap 8 d K (some .boolean) [] (fun _ => []) 0 (bd_38 G.2.2.2 K F) := by
  unfold bd_38
  exact (CS.seq 7 (CS.decI_n (CX.pure (CE.callV (by decide) (CA.ref (CE.aload_n rfl dX4_findSwap_0 zhd) (CA.ref (CE.aload_n rfl dX4_findSwap_1 zhd) (CA.ref (CE.aload_n rfl dX4_findSwap_2 zhd) CA.nil))) zi_37 cv_X4_82 (fun _ => rfl) dX4_findSwap_3 zhd)) rfl (by decide) dX4_findSwap_6 zhd)
  (CS.seq 122 (CS.scope (CS.seq 10 (CS.decI (CX.pure (CE.iconst kI_0 dX4_findSwap_7 zhd)) (by decide) dX4_findSwap_8 zhd)
  (CS.whl (T := 17) (F := 122) (p1 := 119) (CD.pure (CC.icmp_lt_F (T := 17) (F := 122) (CE.iload dX4_findSwap_10 zhd) (CE.bipush kB_8 dX4_findSwap_12 zhd) dX4_findSwap_14 rfl rfl))
  (CS.seq 116 (CS.scope (CS.seq 20 (CS.decI (CX.pure (CE.iconst kI_0 dX4_findSwap_17 zhd)) (by decide) dX4_findSwap_18 zhd)
  (CS.whl (T := 27) (F := 116) (p1 := 113) (CD.pure (CC.icmp_lt_F (T := 27) (F := 116) (CE.iload dX4_findSwap_20 zhd) (CE.bipush kB_6 dX4_findSwap_22 zhd) dX4_findSwap_24 rfl rfl))
  (CS.seq 110 (CS.scope (CS.seq 33 (CS.decI (CX.pure (CE.iadd (CE.iload dX4_findSwap_27 zhd) (CE.iconst kI_1 dX4_findSwap_29 zhd) dX4_findSwap_30 zhd)) (by decide) dX4_findSwap_31 zhd)
  (CS.for (T := 40) (F := 110) (pu := 104) (p1 := 107) (kb := 5) (kc := 6) (CD.pure (CC.icmp_lt_F (T := 40) (F := 110) (CE.iload dX4_findSwap_33 zhd) (CE.bipush kB_6 dX4_findSwap_35 zhd) dX4_findSwap_37 rfl rfl))
  (CS.seq 61 (CS.decI (CX.pure (CE.bool (T := 54) (F := 58) (q := 59) (CC.if_ne_F (T := 54) (F := 58) (CE.iand (CE.iand (CE.ishr (CE.iload_n rfl dX4_findSwap_40 zhd) (CE.iload dX4_findSwap_41 zhd) dX4_findSwap_43 zhd) (CE.ishr (CE.iload_n rfl dX4_findSwap_44 zhd) (CE.iload dX4_findSwap_45 zhd) dX4_findSwap_47 zhd) dX4_findSwap_48 zhd) (CE.iconst kI_1 dX4_findSwap_49 zhd) dX4_findSwap_50 zhd) dX4_findSwap_51 rfl rfl) dX4_findSwap_54 rfl dX4_findSwap_55 rfl zhd dX4_findSwap_58 zhd)) (by decide) dX4_findSwap_59 zhd)
  (CS.seq 84 (CS.ifT (F := 84) (CDT.or (CDT.of (CD.pure (CC.if_ne_T (T := 104) (F := 66) (CE.iload dX4_findSwap_61 zhd) dX4_findSwap_63 rfl rfl)) zh1) (CDT.of (CD.not (CD.nz_T (T := 84) (F := 81) (CX.callV (by decide) (CA.ref (CE.aload_n rfl dX4_findSwap_66 zhd) (CA.int (CE.iload dX4_findSwap_67 zhd) (CA.int (CE.iload dX4_findSwap_69 zhd) (CA.int (CE.iload dX4_findSwap_71 zhd) (CA.ref (CE.aload_n rfl dX4_findSwap_73 zhd) (CA.ref (CE.aload_n rfl dX4_findSwap_74 zhd) CA.nil)))))) zi_39 cv_X4_86 (fun _ => rfl) dX4_findSwap_75 zhd) dX4_findSwap_78 rfl rfl)) zhd)) (CS.brk (q := 104) dX4_findSwap_81 rfl zhd) (CS.brk0 zhd) zhd)
  (CS.seq 90 (CS.put (CE.aload_n rfl dX4_findSwap_84 zhd) (CX.pure (CE.iload dX4_findSwap_85 zhd)) fp_X4_90 rfl dX4_findSwap_87 zhd)
  (CS.seq 96 (CS.put (CE.aload_n rfl dX4_findSwap_90 zhd) (CX.pure (CE.iload dX4_findSwap_91 zhd)) fp_X4_93 rfl dX4_findSwap_93 zhd)
  (CS.seq 102 (CS.put (CE.aload_n rfl dX4_findSwap_96 zhd) (CX.pure (CE.iload dX4_findSwap_97 zhd)) fp_X4_96 rfl dX4_findSwap_99 zhd)
  (CS.retZ (CX.pure (CE.iconst kI_1 dX4_findSwap_102 zhd)) dX4_findSwap_103)))))) (CS.inc kI_1 (by decide) dX4_findSwap_104 zhd) dX4_findSwap_107 rfl zhd)))
  (CS.inc kI_1 (by decide) dX4_findSwap_110 zhd)) dX4_findSwap_113 rfl zhd)))
  (CS.inc kI_1 (by decide) dX4_findSwap_116 zhd)) dX4_findSwap_119 rfl zhd)))
  (CS.retZ (CX.pure (CE.iconst kI_0 dX4_findSwap_122 zhd)) dX4_findSwap_123)))
theorem dX4_setsRight_0 : decode cX4_setsRight 0 = .ok (.aload_n 0, 1) := by decide +kernel
theorem dX4_setsRight_1 : decode cX4_setsRight 1 = .ok (.getfield 11, 3) := by decide +kernel
theorem dX4_setsRight_4 : decode cX4_setsRight 4 = .ok (.iload_n 2, 1) := by decide +kernel
theorem dX4_setsRight_5 : decode cX4_setsRight 5 = .ok (.aaload, 1) := by decide +kernel
theorem dX4_setsRight_6 : decode cX4_setsRight 6 = .ok (.iload_n 1, 1) := by decide +kernel
theorem dX4_setsRight_7 : decode cX4_setsRight 7 = .ok (.iaload, 1) := by decide +kernel
theorem dX4_setsRight_8 : decode cX4_setsRight 8 = .ok (.iconst (-1), 1) := by decide +kernel
theorem dX4_setsRight_9 : decode cX4_setsRight 9 = .ok (.if_icmp .eq 15, 3) := by decide +kernel
theorem dX4_setsRight_12 : decode cX4_setsRight 12 = .ok (.aload_n 0, 1) := by decide +kernel
theorem dX4_setsRight_13 : decode cX4_setsRight 13 = .ok (.getfield 11, 3) := by decide +kernel
theorem dX4_setsRight_16 : decode cX4_setsRight 16 = .ok (.iload_n 3, 1) := by decide +kernel
theorem dX4_setsRight_17 : decode cX4_setsRight 17 = .ok (.aaload, 1) := by decide +kernel
theorem dX4_setsRight_18 : decode cX4_setsRight 18 = .ok (.iload_n 1, 1) := by decide +kernel
theorem dX4_setsRight_19 : decode cX4_setsRight 19 = .ok (.iaload, 1) := by decide +kernel
theorem dX4_setsRight_20 : decode cX4_setsRight 20 = .ok (.iconst (-1), 1) := by decide +kernel
theorem dX4_setsRight_21 : decode cX4_setsRight 21 = .ok (.if_icmp .ne 5, 3) := by decide +kernel
theorem dX4_setsRight_24 : decode cX4_setsRight 24 = .ok (.iconst 0, 1) := by decide +kernel
theorem dX4_setsRight_25 : decode cX4_setsRight 25 = .ok (.ireturn, 1) := by decide +kernel
theorem dX4_setsRight_26 : decode cX4_setsRight 26 = .ok (.aload_n 0, 1) := by decide +kernel
theorem dX4_setsRight_27 : decode cX4_setsRight 27 = .ok (.iload_n 1, 1) := by decide +kernel
theorem dX4_setsRight_28 : decode cX4_setsRight 28 = .ok (.iload_n 2, 1) := by decide +kernel
theorem dX4_setsRight_29 : decode cX4_setsRight 29 = .ok (.iload_n 3, 1) := by decide +kernel
theorem dX4_setsRight_30 : decode cX4_setsRight 30 = .ok (.invokevirtual 99, 3) := by decide +kernel
theorem dX4_setsRight_33 : decode cX4_setsRight 33 = .ok (.aload_n 0, 1) := by decide +kernel
theorem dX4_setsRight_34 : decode cX4_setsRight 34 = .ok (.iload_n 2, 1) := by decide +kernel
theorem dX4_setsRight_35 : decode cX4_setsRight 35 = .ok (.aload 4, 2) := by decide +kernel
theorem dX4_setsRight_37 : decode cX4_setsRight 37 = .ok (.aload 5, 2) := by decide +kernel
theorem dX4_setsRight_39 : decode cX4_setsRight 39 = .ok (.invokevirtual 78, 3) := by decide +kernel
theorem dX4_setsRight_42 : decode cX4_setsRight 42 = .ok (.ifCond .eq 19, 3) := by decide +kernel
theorem dX4_setsRight_45 : decode cX4_setsRight 45 = .ok (.aload_n 0, 1) := by decide +kernel
theorem dX4_setsRight_46 : decode cX4_setsRight 46 = .ok (.iload_n 3, 1) := by decide +kernel
theorem dX4_setsRight_47 : decode cX4_setsRight 47 = .ok (.aload 4, 2) := by decide +kernel
theorem dX4_setsRight_49 : decode cX4_setsRight 49 = .ok (.aload 5, 2) := by decide +kernel
theorem dX4_setsRight_51 : decode cX4_setsRight 51 = .ok (.invokevirtual 78, 3) := by decide +kernel
theorem dX4_setsRight_54 : decode cX4_setsRight 54 = .ok (.ifCond .eq 7, 3) := by decide +kernel
theorem dX4_setsRight_57 : decode cX4_setsRight 57 = .ok (.iconst 1, 1) := by decide +kernel
theorem dX4_setsRight_58 : decode cX4_setsRight 58 = .ok (.goto 4, 3) := by decide +kernel
theorem dX4_setsRight_61 : decode cX4_setsRight 61 = .ok (.iconst 0, 1) := by decide +kernel
theorem dX4_setsRight_62 : decode cX4_setsRight 62 = .ok (.istore 6, 2) := by decide +kernel
theorem dX4_setsRight_64 : decode cX4_setsRight 64 = .ok (.aload_n 0, 1) := by decide +kernel
theorem dX4_setsRight_65 : decode cX4_setsRight 65 = .ok (.iload_n 1, 1) := by decide +kernel
theorem dX4_setsRight_66 : decode cX4_setsRight 66 = .ok (.iload_n 2, 1) := by decide +kernel
theorem dX4_setsRight_67 : decode cX4_setsRight 67 = .ok (.iload_n 3, 1) := by decide +kernel
theorem dX4_setsRight_68 : decode cX4_setsRight 68 = .ok (.invokevirtual 99, 3) := by decide +kernel
theorem dX4_setsRight_71 : decode cX4_setsRight 71 = .ok (.iload 6, 2) := by decide +kernel
theorem dX4_setsRight_73 : decode cX4_setsRight 73 = .ok (.ireturn, 1) := by decide +kernel
theorem cd_39 (G : ZG) (d : Nat) (K : ZKt) (F : ZFt) (hT : zt5 G.2.2.2) : CS G RX4 cX4_setsRight 7 d K (some .boolean) [] (fun _ => []) 0 (bd_39 G.2.2.2 K F) := by
  unfold bd_39
  exact (CS.seq 26 (CS.if1 (T := 24) (F := 26) (CD.pure (CC.or (CC.icmp_eq_T (T := 24) (F := 12) (CE.aldI (CE.aldR (CE.getR (CE.aload_n rfl dX4_setsRight_0 zhd) fs_X4_11 dX4_setsRight_1 zhd) (CE.iload_n rfl dX4_setsRight_4 zhd) dX4_setsRight_5 zhd) (CE.iload_n rfl dX4_setsRight_6 zhd) (Or.inl ⟨rfl, dX4_setsRight_7⟩) zhd) (CE.iconst kI_m1 dX4_setsRight_8 zhd) dX4_setsRight_9 rfl rfl) (CC.icmp_eq_F (T := 24) (F := 26) (CE.aldI (CE.aldR (CE.getR (CE.aload_n rfl dX4_setsRight_12 zhd) fs_X4_11 dX4_setsRight_13 zhd) (CE.iload_n rfl dX4_setsRight_16 zhd) dX4_setsRight_17 zhd) (CE.iload_n rfl dX4_setsRight_18 zhd) (Or.inl ⟨rfl, dX4_setsRight_19⟩) zhd) (CE.iconst kI_m1 dX4_setsRight_20 zhd) dX4_setsRight_21 rfl rfl))) (CS.retZ (CX.pure (CE.iconst kI_0 dX4_setsRight_24 zhd)) dX4_setsRight_25) zhd)
  (CS.seq 33 (CS.callV (CA.ref (CE.aload_n rfl dX4_setsRight_26 zhd) (CA.int (CE.iload_n rfl dX4_setsRight_27 zhd) (CA.int (CE.iload_n rfl dX4_setsRight_28 zhd) (CA.int (CE.iload_n rfl dX4_setsRight_29 zhd) CA.nil)))) zi_40 cv_X4_99 (fun _ => rfl) dX4_setsRight_30 zhd)
  (CS.seq 64 (CS.decI (CX.pure (CE.bool (T := 57) (F := 61) (q := 62) (CC.and (CC.if_ne_F (T := 45) (F := 61) (CE.callV (by decide) (CA.ref (CE.aload_n rfl dX4_setsRight_33 zhd) (CA.int (CE.iload_n rfl dX4_setsRight_34 zhd) (CA.ref (CE.aload dX4_setsRight_35 zhd) (CA.ref (CE.aload dX4_setsRight_37 zhd) CA.nil)))) zi_36 cv_X4_78 (fun _ => rfl) dX4_setsRight_39 zhd) dX4_setsRight_42 rfl rfl) (CC.if_ne_F (T := 57) (F := 61) (CE.callV (by decide) (CA.ref (CE.aload_n rfl dX4_setsRight_45 zhd) (CA.int (CE.iload_n rfl dX4_setsRight_46 zhd) (CA.ref (CE.aload dX4_setsRight_47 zhd) (CA.ref (CE.aload dX4_setsRight_49 zhd) CA.nil)))) zi_36 cv_X4_78 (fun _ => rfl) dX4_setsRight_51 zhd) dX4_setsRight_54 rfl rfl)) dX4_setsRight_57 rfl dX4_setsRight_58 rfl zhd dX4_setsRight_61 zhd)) (by decide) dX4_setsRight_62 zhd)
  (CS.seq 71 (CS.callV (CA.ref (CE.aload_n rfl dX4_setsRight_64 zhd) (CA.int (CE.iload_n rfl dX4_setsRight_65 zhd) (CA.int (CE.iload_n rfl dX4_setsRight_66 zhd) (CA.int (CE.iload_n rfl dX4_setsRight_67 zhd) CA.nil)))) zi_40 cv_X4_99 (fun _ => rfl) dX4_setsRight_68 zhd)
  (CS.retZ (CX.pure (CE.iload dX4_setsRight_71 zhd)) dX4_setsRight_73)))))
theorem dX4_change_0 : decode cX4_change 0 = .ok (.aload_n 0, 1) := by decide +kernel
theorem dX4_change_1 : decode cX4_change 1 = .ok (.getfield 11, 3) := by decide +kernel
theorem dX4_change_4 : decode cX4_change 4 = .ok (.iload_n 2, 1) := by decide +kernel
theorem dX4_change_5 : decode cX4_change 5 = .ok (.aaload, 1) := by decide +kernel
theorem dX4_change_6 : decode cX4_change 6 = .ok (.iload_n 1, 1) := by decide +kernel
theorem dX4_change_7 : decode cX4_change 7 = .ok (.iaload, 1) := by decide +kernel
theorem dX4_change_8 : decode cX4_change 8 = .ok (.istore 4, 2) := by decide +kernel
theorem dX4_change_10 : decode cX4_change 10 = .ok (.aload_n 0, 1) := by decide +kernel
theorem dX4_change_11 : decode cX4_change 11 = .ok (.getfield 11, 3) := by decide +kernel
theorem dX4_change_14 : decode cX4_change 14 = .ok (.iload_n 2, 1) := by decide +kernel
theorem dX4_change_15 : decode cX4_change 15 = .ok (.aaload, 1) := by decide +kernel
theorem dX4_change_16 : decode cX4_change 16 = .ok (.iload_n 1, 1) := by decide +kernel
theorem dX4_change_17 : decode cX4_change 17 = .ok (.aload_n 0, 1) := by decide +kernel
theorem dX4_change_18 : decode cX4_change 18 = .ok (.getfield 11, 3) := by decide +kernel
theorem dX4_change_21 : decode cX4_change 21 = .ok (.iload_n 3, 1) := by decide +kernel
theorem dX4_change_22 : decode cX4_change 22 = .ok (.aaload, 1) := by decide +kernel
theorem dX4_change_23 : decode cX4_change 23 = .ok (.iload_n 1, 1) := by decide +kernel
theorem dX4_change_24 : decode cX4_change 24 = .ok (.iaload, 1) := by decide +kernel
theorem dX4_change_25 : decode cX4_change 25 = .ok (.iastore, 1) := by decide +kernel
theorem dX4_change_26 : decode cX4_change 26 = .ok (.aload_n 0, 1) := by decide +kernel
theorem dX4_change_27 : decode cX4_change 27 = .ok (.getfield 11, 3) := by decide +kernel
theorem dX4_change_30 : decode cX4_change 30 = .ok (.iload_n 3, 1) := by decide +kernel
theorem dX4_change_31 : decode cX4_change 31 = .ok (.aaload, 1) := by decide +kernel
theorem dX4_change_32 : decode cX4_change 32 = .ok (.iload_n 1, 1) := by decide +kernel
theorem dX4_change_33 : decode cX4_change 33 = .ok (.iload 4, 2) := by decide +kernel
theorem dX4_change_35 : decode cX4_change 35 = .ok (.iastore, 1) := by decide +kernel
theorem dX4_change_36 : decode cX4_change 36 = .ok (.return_, 1) := by decide +kernel
theorem cd_40 (G : ZG) (d : Nat) (K : ZKt) (F : ZFt) (hT : zt5 G.2.2.2) : CS G RX4 cX4_change 5 d K (none) [] (fun _ => []) 0 (bd_40 G.2.2.2 K F) := by
  unfold bd_40
  exact (CS.seq 36 (CS.seq 10 (CS.decI (CX.pure (CE.aldI (CE.aldR (CE.getR (CE.aload_n rfl dX4_change_0 zhd) fs_X4_11 dX4_change_1 zhd) (CE.iload_n rfl dX4_change_4 zhd) dX4_change_5 zhd) (CE.iload_n rfl dX4_change_6 zhd) (Or.inl ⟨rfl, dX4_change_7⟩) zhd)) (by decide) dX4_change_8 zhd)
  (CS.seq 26 (CS.st (CE.aldR (CE.getR (CE.aload_n rfl dX4_change_10 zhd) fs_X4_11 dX4_change_11 zhd) (CE.iload_n rfl dX4_change_14 zhd) dX4_change_15 zhd) (CX.pure (CE.iload_n rfl dX4_change_16 zhd)) (CX.pure (CE.aldI (CE.aldR (CE.getR (CE.aload_n rfl dX4_change_17 zhd) fs_X4_11 dX4_change_18 zhd) (CE.iload_n rfl dX4_change_21 zhd) dX4_change_22 zhd) (CE.iload_n rfl dX4_change_23 zhd) (Or.inl ⟨rfl, dX4_change_24⟩) zhd)) (Or.inl ⟨rfl, dX4_change_25⟩) zhd)
  (CS.st (CE.aldR (CE.getR (CE.aload_n rfl dX4_change_26 zhd) fs_X4_11 dX4_change_27 zhd) (CE.iload_n rfl dX4_change_30 zhd) dX4_change_31 zhd) (CX.pure (CE.iload_n rfl dX4_change_32 zhd)) (CX.pure (CE.iload dX4_change_33 zhd)) (Or.inl ⟨rfl, dX4_change_35⟩) zhd)))
  (CS.retV dX4_change_36))
theorem dX4_lotsToBlame_0 : decode cX4_lotsToBlame 0 = .ok (.iconst 0, 1) := by decide +kernel
theorem dX4_lotsToBlame_1 : decode cX4_lotsToBlame 1 = .ok (.istore_n 2, 1) := by decide +kernel
theorem dX4_lotsToBlame_2 : decode cX4_lotsToBlame 2 = .ok (.iconst 0, 1) := by decide +kernel
theorem dX4_lotsToBlame_3 : decode cX4_lotsToBlame 3 = .ok (.istore_n 3, 1) := by decide +kernel
theorem dX4_lotsToBlame_4 : decode cX4_lotsToBlame 4 = .ok (.iload_n 3, 1) := by decide +kernel
theorem dX4_lotsToBlame_5 : decode cX4_lotsToBlame 5 = .ok (.bipush 6, 2) := by decide +kernel
theorem dX4_lotsToBlame_7 : decode cX4_lotsToBlame 7 = .ok (.if_icmp .ge 40, 3) := by decide +kernel
theorem dX4_lotsToBlame_10 : decode cX4_lotsToBlame 10 = .ok (.aload_n 0, 1) := by decide +kernel
theorem dX4_lotsToBlame_11 : decode cX4_lotsToBlame 11 = .ok (.getfield 23, 3) := by decide +kernel
theorem dX4_lotsToBlame_14 : decode cX4_lotsToBlame 14 = .ok (.iload_n 3, 1) := by decide +kernel
theorem dX4_lotsToBlame_15 : decode cX4_lotsToBlame 15 = .ok (.aload_n 0, 1) := by decide +kernel
theorem dX4_lotsToBlame_16 : decode cX4_lotsToBlame 16 = .ok (.iload_n 3, 1) := by decide +kernel
theorem dX4_lotsToBlame_17 : decode cX4_lotsToBlame 17 = .ok (.aload_n 1, 1) := by decide +kernel
theorem dX4_lotsToBlame_18 : decode cX4_lotsToBlame 18 = .ok (.invokevirtual 103, 3) := by decide +kernel
theorem dX4_lotsToBlame_21 : decode cX4_lotsToBlame 21 = .ok (.iastore, 1) := by decide +kernel
theorem dX4_lotsToBlame_22 : decode cX4_lotsToBlame 22 = .ok (.aload_n 0, 1) := by decide +kernel
theorem dX4_lotsToBlame_23 : decode cX4_lotsToBlame 23 = .ok (.getfield 20, 3) := by decide +kernel
theorem dX4_lotsToBlame_26 : decode cX4_lotsToBlame 26 = .ok (.iload_n 3, 1) := by decide +kernel
theorem dX4_lotsToBlame_27 : decode cX4_lotsToBlame 27 = .ok (.iaload, 1) := by decide +kernel
theorem dX4_lotsToBlame_28 : decode cX4_lotsToBlame 28 = .ok (.iconst 2, 1) := by decide +kernel
theorem dX4_lotsToBlame_29 : decode cX4_lotsToBlame 29 = .ok (.if_icmp .ne 12, 3) := by decide +kernel
theorem dX4_lotsToBlame_32 : decode cX4_lotsToBlame 32 = .ok (.iload_n 2, 1) := by decide +kernel
theorem dX4_lotsToBlame_33 : decode cX4_lotsToBlame 33 = .ok (.aload_n 0, 1) := by decide +kernel
theorem dX4_lotsToBlame_34 : decode cX4_lotsToBlame 34 = .ok (.getfield 23, 3) := by decide +kernel
theorem dX4_lotsToBlame_37 : decode cX4_lotsToBlame 37 = .ok (.iload_n 3, 1) := by decide +kernel
theorem dX4_lotsToBlame_38 : decode cX4_lotsToBlame 38 = .ok (.iaload, 1) := by decide +kernel
theorem dX4_lotsToBlame_39 : decode cX4_lotsToBlame 39 = .ok (.ior, 1) := by decide +kernel
theorem dX4_lotsToBlame_40 : decode cX4_lotsToBlame 40 = .ok (.istore_n 2, 1) := by decide +kernel
theorem dX4_lotsToBlame_41 : decode cX4_lotsToBlame 41 = .ok (.iinc 3 1, 3) := by decide +kernel
theorem dX4_lotsToBlame_44 : decode cX4_lotsToBlame 44 = .ok (.goto (-40), 3) := by decide +kernel
theorem dX4_lotsToBlame_47 : decode cX4_lotsToBlame 47 = .ok (.iconst (-1), 1) := by decide +kernel
theorem dX4_lotsToBlame_48 : decode cX4_lotsToBlame 48 = .ok (.istore_n 3, 1) := by decide +kernel
theorem dX4_lotsToBlame_49 : decode cX4_lotsToBlame 49 = .ok (.iconst 0, 1) := by decide +kernel
theorem dX4_lotsToBlame_50 : decode cX4_lotsToBlame 50 = .ok (.istore 4, 2) := by decide +kernel
theorem dX4_lotsToBlame_52 : decode cX4_lotsToBlame 52 = .ok (.iload 4, 2) := by decide +kernel
theorem dX4_lotsToBlame_54 : decode cX4_lotsToBlame 54 = .ok (.sipush 4096, 3) := by decide +kernel
theorem dX4_lotsToBlame_57 : decode cX4_lotsToBlame 57 = .ok (.if_icmp .ge 48, 3) := by decide +kernel
theorem dX4_lotsToBlame_60 : decode cX4_lotsToBlame 60 = .ok (.iload 4, 2) := by decide +kernel
theorem dX4_lotsToBlame_62 : decode cX4_lotsToBlame 62 = .ok (.iload_n 2, 1) := by decide +kernel
theorem dX4_lotsToBlame_63 : decode cX4_lotsToBlame 63 = .ok (.iand, 1) := by decide +kernel
theorem dX4_lotsToBlame_64 : decode cX4_lotsToBlame 64 = .ok (.ifCond .ne 35, 3) := by decide +kernel
theorem dX4_lotsToBlame_67 : decode cX4_lotsToBlame 67 = .ok (.aload_n 0, 1) := by decide +kernel
theorem dX4_lotsToBlame_68 : decode cX4_lotsToBlame 68 = .ok (.iload 4, 2) := by decide +kernel
theorem dX4_lotsToBlame_70 : decode cX4_lotsToBlame 70 = .ok (.invokevirtual 107, 3) := by decide +kernel
theorem dX4_lotsToBlame_73 : decode cX4_lotsToBlame 73 = .ok (.ifCond .ne 6, 3) := by decide +kernel
theorem dX4_lotsToBlame_76 : decode cX4_lotsToBlame 76 = .ok (.goto 23, 3) := by decide +kernel
theorem dX4_lotsToBlame_79 : decode cX4_lotsToBlame 79 = .ok (.iload_n 3, 1) := by decide +kernel
theorem dX4_lotsToBlame_80 : decode cX4_lotsToBlame 80 = .ok (.iconst (-1), 1) := by decide +kernel
theorem dX4_lotsToBlame_81 : decode cX4_lotsToBlame 81 = .ok (.if_icmp .eq 15, 3) := by decide +kernel
theorem dX4_lotsToBlame_84 : decode cX4_lotsToBlame 84 = .ok (.iload 4, 2) := by decide +kernel
theorem dX4_lotsToBlame_86 : decode cX4_lotsToBlame 86 = .ok (.invokestatic 110, 3) := by decide +kernel
theorem dX4_lotsToBlame_89 : decode cX4_lotsToBlame 89 = .ok (.iload_n 3, 1) := by decide +kernel
theorem dX4_lotsToBlame_90 : decode cX4_lotsToBlame 90 = .ok (.invokestatic 110, 3) := by decide +kernel
theorem dX4_lotsToBlame_93 : decode cX4_lotsToBlame 93 = .ok (.if_icmp .ge 6, 3) := by decide +kernel
theorem dX4_lotsToBlame_96 : decode cX4_lotsToBlame 96 = .ok (.iload 4, 2) := by decide +kernel
theorem dX4_lotsToBlame_98 : decode cX4_lotsToBlame 98 = .ok (.istore_n 3, 1) := by decide +kernel
theorem dX4_lotsToBlame_99 : decode cX4_lotsToBlame 99 = .ok (.iinc 4 1, 3) := by decide +kernel
theorem dX4_lotsToBlame_102 : decode cX4_lotsToBlame 102 = .ok (.goto (-50), 3) := by decide +kernel
theorem dX4_lotsToBlame_105 : decode cX4_lotsToBlame 105 = .ok (.iload_n 3, 1) := by decide +kernel
theorem dX4_lotsToBlame_106 : decode cX4_lotsToBlame 106 = .ok (.ireturn, 1) := by decide +kernel
theorem cd_41 (G : ZG) (d : Nat) (K : ZKt) (F : ZFt) (hT : zt5 G.2.2.2) : CS G RX4 cX4_lotsToBlame 5 d K (some .int) [] (fun _ => []) 0 (bd_41 G.2.2.2 K F) := by
  unfold bd_41
  exact (CS.seq 2 (CS.decI_n (CX.pure (CE.iconst kI_0 dX4_lotsToBlame_0 zhd)) rfl (by decide) dX4_lotsToBlame_1 zhd)
  (CS.seq 47 (CS.scope (CS.seq 4 (CS.decI_n (CX.pure (CE.iconst kI_0 dX4_lotsToBlame_2 zhd)) rfl (by decide) dX4_lotsToBlame_3 zhd)
  (CS.whl (T := 10) (F := 47) (p1 := 44) (CD.pure (CC.icmp_lt_F (T := 10) (F := 47) (CE.iload_n rfl dX4_lotsToBlame_4 zhd) (CE.bipush kB_6 dX4_lotsToBlame_5 zhd) dX4_lotsToBlame_7 rfl rfl))
  (CS.seq 41 (CS.seq 22 (CS.st (CE.getR (CE.aload_n rfl dX4_lotsToBlame_10 zhd) fs_X4_23 dX4_lotsToBlame_11 zhd) (CX.pure (CE.iload_n rfl dX4_lotsToBlame_14 zhd)) (CX.pure (CE.callV (by decide) (CA.ref (CE.aload_n rfl dX4_lotsToBlame_15 zhd) (CA.int (CE.iload_n rfl dX4_lotsToBlame_16 zhd) (CA.ref (CE.aload_n rfl dX4_lotsToBlame_17 zhd) CA.nil))) zi_43 cv_X4_103 (fun _ => rfl) dX4_lotsToBlame_18 zhd)) (Or.inl ⟨rfl, dX4_lotsToBlame_21⟩) zhd)
  (CS.if1 (T := 32) (F := 41) (CD.pure (CC.icmp_eq_F (T := 32) (F := 41) (CE.aldI (CE.getR (CE.aload_n rfl dX4_lotsToBlame_22 zhd) fs_X4_20 dX4_lotsToBlame_23 zhd) (CE.iload_n rfl dX4_lotsToBlame_26 zhd) (Or.inl ⟨rfl, dX4_lotsToBlame_27⟩) zhd) (CE.iconst kI_2 dX4_lotsToBlame_28 zhd) dX4_lotsToBlame_29 rfl rfl)) (CS.setI_n (CX.pure (CE.ior (CE.iload_n rfl dX4_lotsToBlame_32 zhd) (CE.aldI (CE.getR (CE.aload_n rfl dX4_lotsToBlame_33 zhd) fs_X4_23 dX4_lotsToBlame_34 zhd) (CE.iload_n rfl dX4_lotsToBlame_37 zhd) (Or.inl ⟨rfl, dX4_lotsToBlame_38⟩) zhd) dX4_lotsToBlame_39 zhd)) rfl (by decide) dX4_lotsToBlame_40 zhd) zhd))
  (CS.inc kI_1 (by decide) dX4_lotsToBlame_41 zhd)) dX4_lotsToBlame_44 rfl zhd)))
  (CS.seq 49 (CS.decI_n (CX.pure (CE.iconst kI_m1 dX4_lotsToBlame_47 zhd)) rfl (by decide) dX4_lotsToBlame_48 zhd)
  (CS.seq 105 (CS.scope (CS.seq 52 (CS.decI (CX.pure (CE.iconst kI_0 dX4_lotsToBlame_49 zhd)) (by decide) dX4_lotsToBlame_50 zhd)
  (CS.for (T := 60) (F := 105) (pu := 99) (p1 := 102) (kb := 3) (kc := 4) (CD.pure (CC.icmp_lt_F (T := 60) (F := 105) (CE.iload dX4_lotsToBlame_52 zhd) (CE.sipush kS_4096 dX4_lotsToBlame_54 zhd) dX4_lotsToBlame_57 rfl rfl))
  (CS.seq 79 (CS.ifT (F := 79) (CDT.or (CDT.of (CD.pure (CC.if_ne_T (T := 99) (F := 67) (CE.iand (CE.iload dX4_lotsToBlame_60 zhd) (CE.iload_n rfl dX4_lotsToBlame_62 zhd) dX4_lotsToBlame_63 zhd) dX4_lotsToBlame_64 rfl rfl)) zh1) (CDT.of (CD.pure (CC.not (CC.if_ne_T (T := 79) (F := 76) (CE.callV (by decide) (CA.ref (CE.aload_n rfl dX4_lotsToBlame_67 zhd) (CA.int (CE.iload dX4_lotsToBlame_68 zhd) CA.nil)) zi_42 cv_X4_107 (fun _ => rfl) dX4_lotsToBlame_70 zhd) dX4_lotsToBlame_73 rfl rfl))) zhd)) (CS.brk (q := 99) dX4_lotsToBlame_76 rfl zhd) (CS.brk0 zhd) zhd)
  (CS.if1 (T := 96) (F := 99) (CD.pure (CC.or (CC.icmp_eq_T (T := 96) (F := 84) (CE.iload_n rfl dX4_lotsToBlame_79 zhd) (CE.iconst kI_m1 dX4_lotsToBlame_80 zhd) dX4_lotsToBlame_81 rfl rfl) (CC.icmp_lt_F (T := 96) (F := 99) (CE.callS (by decide) (CA.int (CE.iload dX4_lotsToBlame_84 zhd) CA.nil) zi_217 cs_X4_110 (fun _ => rfl) dX4_lotsToBlame_86 zhd) (CE.callS (by decide) (CA.int (CE.iload_n rfl dX4_lotsToBlame_89 zhd) CA.nil) zi_217 cs_X4_110 (fun _ => rfl) dX4_lotsToBlame_90 zhd) dX4_lotsToBlame_93 rfl rfl))) (CS.setI_n (CX.pure (CE.iload dX4_lotsToBlame_96 zhd)) rfl (by decide) dX4_lotsToBlame_98 zhd) zhd)) (CS.inc kI_1 (by decide) dX4_lotsToBlame_99 zhd) dX4_lotsToBlame_102 rfl zhd)))
  (CS.retI (CX.pure (CE.iload_n rfl dX4_lotsToBlame_105 zhd)) dX4_lotsToBlame_106)))))
theorem dX4_explains_0 : decode cX4_explains 0 = .ok (.iconst 0, 1) := by decide +kernel
theorem dX4_explains_1 : decode cX4_explains 1 = .ok (.istore_n 2, 1) := by decide +kernel
theorem dX4_explains_2 : decode cX4_explains 2 = .ok (.iload_n 2, 1) := by decide +kernel
theorem dX4_explains_3 : decode cX4_explains 3 = .ok (.bipush 6, 2) := by decide +kernel
theorem dX4_explains_5 : decode cX4_explains 5 = .ok (.if_icmp .ge 32, 3) := by decide +kernel
theorem dX4_explains_8 : decode cX4_explains 8 = .ok (.aload_n 0, 1) := by decide +kernel
theorem dX4_explains_9 : decode cX4_explains 9 = .ok (.getfield 20, 3) := by decide +kernel
theorem dX4_explains_12 : decode cX4_explains 12 = .ok (.iload_n 2, 1) := by decide +kernel
theorem dX4_explains_13 : decode cX4_explains 13 = .ok (.iaload, 1) := by decide +kernel
theorem dX4_explains_14 : decode cX4_explains 14 = .ok (.iconst 1, 1) := by decide +kernel
theorem dX4_explains_15 : decode cX4_explains 15 = .ok (.if_icmp .ne 16, 3) := by decide +kernel
theorem dX4_explains_18 : decode cX4_explains 18 = .ok (.iload_n 1, 1) := by decide +kernel
theorem dX4_explains_19 : decode cX4_explains 19 = .ok (.aload_n 0, 1) := by decide +kernel
theorem dX4_explains_20 : decode cX4_explains 20 = .ok (.getfield 23, 3) := by decide +kernel
theorem dX4_explains_23 : decode cX4_explains 23 = .ok (.iload_n 2, 1) := by decide +kernel
theorem dX4_explains_24 : decode cX4_explains 24 = .ok (.iaload, 1) := by decide +kernel
theorem dX4_explains_25 : decode cX4_explains 25 = .ok (.iand, 1) := by decide +kernel
theorem dX4_explains_26 : decode cX4_explains 26 = .ok (.ifCond .ne 5, 3) := by decide +kernel
theorem dX4_explains_29 : decode cX4_explains 29 = .ok (.iconst 0, 1) := by decide +kernel
theorem dX4_explains_30 : decode cX4_explains 30 = .ok (.ireturn, 1) := by decide +kernel
theorem dX4_explains_31 : decode cX4_explains 31 = .ok (.iinc 2 1, 3) := by decide +kernel
theorem dX4_explains_34 : decode cX4_explains 34 = .ok (.goto (-32), 3) := by decide +kernel
theorem dX4_explains_37 : decode cX4_explains 37 = .ok (.iconst 1, 1) := by decide +kernel
theorem dX4_explains_38 : decode cX4_explains 38 = .ok (.ireturn, 1) := by decide +kernel
theorem cd_42 (G : ZG) (d : Nat) (K : ZKt) (F : ZFt) (hT : zt5 G.2.2.2) : CS G RX4 cX4_explains 3 d K (some .boolean) [] (fun _ => []) 0 (bd_42 G.2.2.2 K F) := by
  unfold bd_42
  exact (CS.seq 37 (CS.scope (CS.seq 2 (CS.decI_n (CX.pure (CE.iconst kI_0 dX4_explains_0 zhd)) rfl (by decide) dX4_explains_1 zhd)
  (CS.whl (T := 8) (F := 37) (p1 := 34) (CD.pure (CC.icmp_lt_F (T := 8) (F := 37) (CE.iload_n rfl dX4_explains_2 zhd) (CE.bipush kB_6 dX4_explains_3 zhd) dX4_explains_5 rfl rfl))
  (CS.seq 31 (CS.if1 (T := 29) (F := 31) (CD.pure (CC.and (CC.icmp_eq_F (T := 18) (F := 31) (CE.aldI (CE.getR (CE.aload_n rfl dX4_explains_8 zhd) fs_X4_20 dX4_explains_9 zhd) (CE.iload_n rfl dX4_explains_12 zhd) (Or.inl ⟨rfl, dX4_explains_13⟩) zhd) (CE.iconst kI_1 dX4_explains_14 zhd) dX4_explains_15 rfl rfl) (CC.if_eq_F (T := 29) (F := 31) (CE.iand (CE.iload_n rfl dX4_explains_18 zhd) (CE.aldI (CE.getR (CE.aload_n rfl dX4_explains_19 zhd) fs_X4_23 dX4_explains_20 zhd) (CE.iload_n rfl dX4_explains_23 zhd) (Or.inl ⟨rfl, dX4_explains_24⟩) zhd) dX4_explains_25 zhd) dX4_explains_26 rfl rfl))) (CS.retZ (CX.pure (CE.iconst kI_0 dX4_explains_29 zhd)) dX4_explains_30) zhd)
  (CS.inc kI_1 (by decide) dX4_explains_31 zhd)) dX4_explains_34 rfl zhd)))
  (CS.retZ (CX.pure (CE.iconst kI_1 dX4_explains_37 zhd)) dX4_explains_38))
theorem dX4_lotsIn_0 : decode cX4_lotsIn 0 = .ok (.iconst 0, 1) := by decide +kernel
theorem dX4_lotsIn_1 : decode cX4_lotsIn 1 = .ok (.istore_n 3, 1) := by decide +kernel
theorem dX4_lotsIn_2 : decode cX4_lotsIn 2 = .ok (.aload_n 0, 1) := by decide +kernel
theorem dX4_lotsIn_3 : decode cX4_lotsIn 3 = .ok (.getfield 11, 3) := by decide +kernel
theorem dX4_lotsIn_6 : decode cX4_lotsIn 6 = .ok (.iload_n 1, 1) := by decide +kernel
theorem dX4_lotsIn_7 : decode cX4_lotsIn 7 = .ok (.aaload, 1) := by decide +kernel
theorem dX4_lotsIn_8 : decode cX4_lotsIn 8 = .ok (.astore 4, 2) := by decide +kernel
theorem dX4_lotsIn_10 : decode cX4_lotsIn 10 = .ok (.aload 4, 2) := by decide +kernel
theorem dX4_lotsIn_12 : decode cX4_lotsIn 12 = .ok (.arraylength, 1) := by decide +kernel
theorem dX4_lotsIn_13 : decode cX4_lotsIn 13 = .ok (.istore 5, 2) := by decide +kernel
theorem dX4_lotsIn_15 : decode cX4_lotsIn 15 = .ok (.iconst 0, 1) := by decide +kernel
theorem dX4_lotsIn_16 : decode cX4_lotsIn 16 = .ok (.istore 6, 2) := by decide +kernel
theorem dX4_lotsIn_18 : decode cX4_lotsIn 18 = .ok (.iload 6, 2) := by decide +kernel
theorem dX4_lotsIn_20 : decode cX4_lotsIn 20 = .ok (.iload 5, 2) := by decide +kernel
theorem dX4_lotsIn_22 : decode cX4_lotsIn 22 = .ok (.if_icmp .ge 40, 3) := by decide +kernel
theorem dX4_lotsIn_25 : decode cX4_lotsIn 25 = .ok (.aload 4, 2) := by decide +kernel
theorem dX4_lotsIn_27 : decode cX4_lotsIn 27 = .ok (.iload 6, 2) := by decide +kernel
theorem dX4_lotsIn_29 : decode cX4_lotsIn 29 = .ok (.iaload, 1) := by decide +kernel
theorem dX4_lotsIn_30 : decode cX4_lotsIn 30 = .ok (.istore 7, 2) := by decide +kernel
theorem dX4_lotsIn_32 : decode cX4_lotsIn 32 = .ok (.iload 7, 2) := by decide +kernel
theorem dX4_lotsIn_34 : decode cX4_lotsIn 34 = .ok (.aload_n 2, 1) := by decide +kernel
theorem dX4_lotsIn_35 : decode cX4_lotsIn 35 = .ok (.getfield 48, 3) := by decide +kernel
theorem dX4_lotsIn_38 : decode cX4_lotsIn 38 = .ok (.invokestatic 32, 3) := by decide +kernel
theorem dX4_lotsIn_41 : decode cX4_lotsIn 41 = .ok (.ifCond .eq 15, 3) := by decide +kernel
theorem dX4_lotsIn_44 : decode cX4_lotsIn 44 = .ok (.iload_n 3, 1) := by decide +kernel
theorem dX4_lotsIn_45 : decode cX4_lotsIn 45 = .ok (.iconst 1, 1) := by decide +kernel
theorem dX4_lotsIn_46 : decode cX4_lotsIn 46 = .ok (.aload_n 2, 1) := by decide +kernel
theorem dX4_lotsIn_47 : decode cX4_lotsIn 47 = .ok (.getfield 116, 3) := by decide +kernel
theorem dX4_lotsIn_50 : decode cX4_lotsIn 50 = .ok (.iload 7, 2) := by decide +kernel
theorem dX4_lotsIn_52 : decode cX4_lotsIn 52 = .ok (.iaload, 1) := by decide +kernel
theorem dX4_lotsIn_53 : decode cX4_lotsIn 53 = .ok (.ishl, 1) := by decide +kernel
theorem dX4_lotsIn_54 : decode cX4_lotsIn 54 = .ok (.ior, 1) := by decide +kernel
theorem dX4_lotsIn_55 : decode cX4_lotsIn 55 = .ok (.istore_n 3, 1) := by decide +kernel
theorem dX4_lotsIn_56 : decode cX4_lotsIn 56 = .ok (.iinc 6 1, 3) := by decide +kernel
theorem dX4_lotsIn_59 : decode cX4_lotsIn 59 = .ok (.goto (-41), 3) := by decide +kernel
theorem dX4_lotsIn_62 : decode cX4_lotsIn 62 = .ok (.iload_n 3, 1) := by decide +kernel
theorem dX4_lotsIn_63 : decode cX4_lotsIn 63 = .ok (.ireturn, 1) := by decide +kernel
theorem cd_43 (G : ZG) (d : Nat) (K : ZKt) (F : ZFt) (hT : zt5 G.2.2.2) : CS G RX4 cX4_lotsIn 8 d K (some .int) [] (fun _ => []) 0 (bd_43 G.2.2.2 K F) := by
  unfold bd_43
  exact (CS.seq 2 (CS.decI_n (CX.pure (CE.iconst kI_0 dX4_lotsIn_0 zhd)) rfl (by decide) dX4_lotsIn_1 zhd)
  (CS.seq 62 (CS.scope (CS.seq 10 (CS.decR (CX.pure (CE.aldR (CE.getR (CE.aload_n rfl dX4_lotsIn_2 zhd) fs_X4_11 dX4_lotsIn_3 zhd) (CE.iload_n rfl dX4_lotsIn_6 zhd) dX4_lotsIn_7 zhd)) (by decide) dX4_lotsIn_8 zhd)
  (CS.seq 15 (CS.decI (CX.pure (CE.alen (CE.aload dX4_lotsIn_10 zhd) dX4_lotsIn_12 zhd hT)) (by decide) dX4_lotsIn_13 zhd)
  (CS.seq 18 (CS.decI (CX.pure (CE.iconst kI_0 dX4_lotsIn_15 zhd)) (by decide) dX4_lotsIn_16 zhd)
  (CS.whl (T := 25) (F := 62) (p1 := 59) (CD.pure (CC.icmp_lt_F (T := 25) (F := 62) (CE.iload dX4_lotsIn_18 zhd) (CE.iload dX4_lotsIn_20 zhd) dX4_lotsIn_22 rfl rfl))
  (CS.seq 56 (CS.scope (CS.seq 32 (CS.decI (CX.pure (CE.aldI (CE.aload dX4_lotsIn_25 zhd) (CE.iload dX4_lotsIn_27 zhd) (Or.inl ⟨rfl, dX4_lotsIn_29⟩) zhd)) (by decide) dX4_lotsIn_30 zhd)
  (CS.if1 (T := 44) (F := 56) (CD.pure (CC.if_ne_F (T := 44) (F := 56) (CE.callS (by decide) (CA.int (CE.iload dX4_lotsIn_32 zhd) (CA.int (CE.getI (CE.aload_n rfl dX4_lotsIn_34 zhd) fs_X4_48 dX4_lotsIn_35 zhd) CA.nil)) zi_129 cs_X4_32 (fun _ => rfl) dX4_lotsIn_38 zhd) dX4_lotsIn_41 rfl rfl)) (CS.setI_n (CX.pure (CE.ior (CE.iload_n rfl dX4_lotsIn_44 zhd) (CE.ishl (CE.iconst kI_1 dX4_lotsIn_45 zhd) (CE.aldI (CE.getR (CE.aload_n rfl dX4_lotsIn_46 zhd) fs_X4_116 dX4_lotsIn_47 zhd) (CE.iload dX4_lotsIn_50 zhd) (Or.inl ⟨rfl, dX4_lotsIn_52⟩) zhd) dX4_lotsIn_53 zhd) dX4_lotsIn_54 zhd)) rfl (by decide) dX4_lotsIn_55 zhd) zhd)))
  (CS.inc kI_1 (by decide) dX4_lotsIn_56 zhd)) dX4_lotsIn_59 rfl zhd)))))
  (CS.retI (CX.pure (CE.iload_n rfl dX4_lotsIn_62 zhd)) dX4_lotsIn_63)))
theorem dX4_withLots_0 : decode cX4_withLots 0 = .ok (.iconst 0, 1) := by decide +kernel
theorem dX4_withLots_1 : decode cX4_withLots 1 = .ok (.istore_n 3, 1) := by decide +kernel
theorem dX4_withLots_2 : decode cX4_withLots 2 = .ok (.iconst 0, 1) := by decide +kernel
theorem dX4_withLots_3 : decode cX4_withLots 3 = .ok (.istore 4, 2) := by decide +kernel
theorem dX4_withLots_5 : decode cX4_withLots 5 = .ok (.iload 4, 2) := by decide +kernel
theorem dX4_withLots_7 : decode cX4_withLots 7 = .ok (.bipush 6, 2) := by decide +kernel
theorem dX4_withLots_9 : decode cX4_withLots 9 = .ok (.if_icmp .ge 28, 3) := by decide +kernel
theorem dX4_withLots_12 : decode cX4_withLots 12 = .ok (.aload_n 0, 1) := by decide +kernel
theorem dX4_withLots_13 : decode cX4_withLots 13 = .ok (.iload 4, 2) := by decide +kernel
theorem dX4_withLots_15 : decode cX4_withLots 15 = .ok (.aload_n 2, 1) := by decide +kernel
theorem dX4_withLots_16 : decode cX4_withLots 16 = .ok (.invokevirtual 103, 3) := by decide +kernel
theorem dX4_withLots_19 : decode cX4_withLots 19 = .ok (.iload_n 1, 1) := by decide +kernel
theorem dX4_withLots_20 : decode cX4_withLots 20 = .ok (.iand, 1) := by decide +kernel
theorem dX4_withLots_21 : decode cX4_withLots 21 = .ok (.ifCond .eq 10, 3) := by decide +kernel
theorem dX4_withLots_24 : decode cX4_withLots 24 = .ok (.iload_n 3, 1) := by decide +kernel
theorem dX4_withLots_25 : decode cX4_withLots 25 = .ok (.iconst 1, 1) := by decide +kernel
theorem dX4_withLots_26 : decode cX4_withLots 26 = .ok (.iload 4, 2) := by decide +kernel
theorem dX4_withLots_28 : decode cX4_withLots 28 = .ok (.ishl, 1) := by decide +kernel
theorem dX4_withLots_29 : decode cX4_withLots 29 = .ok (.ior, 1) := by decide +kernel
theorem dX4_withLots_30 : decode cX4_withLots 30 = .ok (.istore_n 3, 1) := by decide +kernel
theorem dX4_withLots_31 : decode cX4_withLots 31 = .ok (.iinc 4 1, 3) := by decide +kernel
theorem dX4_withLots_34 : decode cX4_withLots 34 = .ok (.goto (-29), 3) := by decide +kernel
theorem dX4_withLots_37 : decode cX4_withLots 37 = .ok (.iload_n 3, 1) := by decide +kernel
theorem dX4_withLots_38 : decode cX4_withLots 38 = .ok (.ireturn, 1) := by decide +kernel
theorem cd_44 (G : ZG) (d : Nat) (K : ZKt) (F : ZFt) (hT : zt5 G.2.2.2) : CS G RX4 cX4_withLots 5 d K (some .int) [] (fun _ => []) 0 (bd_44 G.2.2.2 K F) := by
  unfold bd_44
  exact (CS.seq 2 (CS.decI_n (CX.pure (CE.iconst kI_0 dX4_withLots_0 zhd)) rfl (by decide) dX4_withLots_1 zhd)
  (CS.seq 37 (CS.scope (CS.seq 5 (CS.decI (CX.pure (CE.iconst kI_0 dX4_withLots_2 zhd)) (by decide) dX4_withLots_3 zhd)
  (CS.whl (T := 12) (F := 37) (p1 := 34) (CD.pure (CC.icmp_lt_F (T := 12) (F := 37) (CE.iload dX4_withLots_5 zhd) (CE.bipush kB_6 dX4_withLots_7 zhd) dX4_withLots_9 rfl rfl))
  (CS.seq 31 (CS.if1 (T := 24) (F := 31) (CD.pure (CC.if_ne_F (T := 24) (F := 31) (CE.iand (CE.callV (by decide) (CA.ref (CE.aload_n rfl dX4_withLots_12 zhd) (CA.int (CE.iload dX4_withLots_13 zhd) (CA.ref (CE.aload_n rfl dX4_withLots_15 zhd) CA.nil))) zi_43 cv_X4_103 (fun _ => rfl) dX4_withLots_16 zhd) (CE.iload_n rfl dX4_withLots_19 zhd) dX4_withLots_20 zhd) dX4_withLots_21 rfl rfl)) (CS.setI_n (CX.pure (CE.ior (CE.iload_n rfl dX4_withLots_24 zhd) (CE.ishl (CE.iconst kI_1 dX4_withLots_25 zhd) (CE.iload dX4_withLots_26 zhd) dX4_withLots_28 zhd) dX4_withLots_29 zhd)) rfl (by decide) dX4_withLots_30 zhd) zhd)
  (CS.inc kI_1 (by decide) dX4_withLots_31 zhd)) dX4_withLots_34 rfl zhd)))
  (CS.retI (CX.pure (CE.iload_n rfl dX4_withLots_37 zhd)) dX4_withLots_38)))
theorem dX4_fold_0 : decode cX4_fold 0 = .ok (.lload_n 1, 1) := by decide +kernel
theorem dX4_fold_1 : decode cX4_fold 1 = .ok (.lstore_n 3, 1) := by decide +kernel
theorem dX4_fold_2 : decode cX4_fold 2 = .ok (.iconst 0, 1) := by decide +kernel
theorem dX4_fold_3 : decode cX4_fold 3 = .ok (.istore 5, 2) := by decide +kernel
theorem dX4_fold_5 : decode cX4_fold 5 = .ok (.iload 5, 2) := by decide +kernel
theorem dX4_fold_7 : decode cX4_fold 7 = .ok (.bipush 6, 2) := by decide +kernel
theorem dX4_fold_9 : decode cX4_fold 9 = .ok (.if_icmp .ge 34, 3) := by decide +kernel
theorem dX4_fold_12 : decode cX4_fold 12 = .ok (.lload_n 3, 1) := by decide +kernel
theorem dX4_fold_13 : decode cX4_fold 13 = .ok (.aload_n 0, 1) := by decide +kernel
theorem dX4_fold_14 : decode cX4_fold 14 = .ok (.getfield 11, 3) := by decide +kernel
theorem dX4_fold_17 : decode cX4_fold 17 = .ok (.iload 5, 2) := by decide +kernel
theorem dX4_fold_19 : decode cX4_fold 19 = .ok (.aaload, 1) := by decide +kernel
theorem dX4_fold_20 : decode cX4_fold 20 = .ok (.bipush 8, 2) := by decide +kernel
theorem dX4_fold_22 : decode cX4_fold 22 = .ok (.invokestatic 119, 3) := by decide +kernel
theorem dX4_fold_25 : decode cX4_fold 25 = .ok (.aload_n 0, 1) := by decide +kernel
theorem dX4_fold_26 : decode cX4_fold 26 = .ok (.getfield 20, 3) := by decide +kernel
theorem dX4_fold_29 : decode cX4_fold 29 = .ok (.iload 5, 2) := by decide +kernel
theorem dX4_fold_31 : decode cX4_fold 31 = .ok (.iaload, 1) := by decide +kernel
theorem dX4_fold_32 : decode cX4_fold 32 = .ok (.i2l, 1) := by decide +kernel
theorem dX4_fold_33 : decode cX4_fold 33 = .ok (.invokestatic 123, 3) := by decide +kernel
theorem dX4_fold_36 : decode cX4_fold 36 = .ok (.lstore_n 3, 1) := by decide +kernel
theorem dX4_fold_37 : decode cX4_fold 37 = .ok (.iinc 5 1, 3) := by decide +kernel
theorem dX4_fold_40 : decode cX4_fold 40 = .ok (.goto (-35), 3) := by decide +kernel
theorem dX4_fold_43 : decode cX4_fold 43 = .ok (.lload_n 3, 1) := by decide +kernel
theorem dX4_fold_44 : decode cX4_fold 44 = .ok (.lreturn, 1) := by decide +kernel
theorem cd_45 (G : ZG) (d : Nat) (K : ZKt) (F : ZFt) (hT : zt5 G.2.2.2) : CS G RX4 cX4_fold 6 d K (some .long) [] (fun _ => []) 0 (bd_45 G.2.2.2 K F) := by
  unfold bd_45
  exact (CS.seq 2 (CS.decL_n (CX.pure (CE.lload_n rfl dX4_fold_0 zhd)) rfl (by decide) dX4_fold_1 zhd)
  (CS.seq 43 (CS.scope (CS.seq 5 (CS.decI (CX.pure (CE.iconst kI_0 dX4_fold_2 zhd)) (by decide) dX4_fold_3 zhd)
  (CS.whl (T := 12) (F := 43) (p1 := 40) (CD.pure (CC.icmp_lt_F (T := 12) (F := 43) (CE.iload dX4_fold_5 zhd) (CE.bipush kB_6 dX4_fold_7 zhd) dX4_fold_9 rfl rfl))
  (CS.seq 37 (CS.setL_n (CX.pure (CE.callS (by decide) (CA.long (CE.callS (by decide) (CA.long (CE.lload_n rfl dX4_fold_12 zhd) (CA.ref (CE.aldR (CE.getR (CE.aload_n rfl dX4_fold_13 zhd) fs_X4_11 dX4_fold_14 zhd) (CE.iload dX4_fold_17 zhd) dX4_fold_19 zhd) (CA.int (CE.bipush kB_8 dX4_fold_20 zhd) CA.nil))) zi_133 cs_X4_119 (fun _ => rfl) dX4_fold_22 zhd) (CA.long (CE.i2l (CE.aldI (CE.getR (CE.aload_n rfl dX4_fold_25 zhd) fs_X4_20 dX4_fold_26 zhd) (CE.iload dX4_fold_29 zhd) (Or.inl ⟨rfl, dX4_fold_31⟩) zhd) dX4_fold_32 zhd) CA.nil)) zi_132 cs_X4_123 (fun _ => rfl) dX4_fold_33 zhd)) rfl (by decide) dX4_fold_36 zhd)
  (CS.inc kI_1 (by decide) dX4_fold_37 zhd)) dX4_fold_40 rfl zhd)))
  (CS.retL (CX.pure (CE.lload_n rfl dX4_fold_43 zhd)) dX4_fold_44)))
theorem dX5_add_0 : decode cX5_add 0 = .ok (.aload_n 0, 1) := by decide +kernel
theorem dX5_add_1 : decode cX5_add 1 = .ok (.getfield 27, 3) := by decide +kernel
theorem dX5_add_4 : decode cX5_add 4 = .ok (.bipush 6, 2) := by decide +kernel
theorem dX5_add_6 : decode cX5_add 6 = .ok (.if_icmp .lt 6, 3) := by decide +kernel
theorem dX5_add_9 : decode cX5_add 9 = .ok (.bipush (-104), 2) := by decide +kernel
theorem dX5_add_11 : decode cX5_add 11 = .ok (.ireturn, 1) := by decide +kernel
theorem dX5_add_12 : decode cX5_add 12 = .ok (.aload_n 0, 1) := by decide +kernel
theorem dX5_add_13 : decode cX5_add 13 = .ok (.getfield 9, 3) := by decide +kernel
theorem dX5_add_16 : decode cX5_add 16 = .ok (.aload_n 0, 1) := by decide +kernel
theorem dX5_add_17 : decode cX5_add 17 = .ok (.getfield 27, 3) := by decide +kernel
theorem dX5_add_20 : decode cX5_add 20 = .ok (.iload_n 1, 1) := by decide +kernel
theorem dX5_add_21 : decode cX5_add 21 = .ok (.iastore, 1) := by decide +kernel
theorem dX5_add_22 : decode cX5_add 22 = .ok (.aload_n 0, 1) := by decide +kernel
theorem dX5_add_23 : decode cX5_add 23 = .ok (.getfield 15, 3) := by decide +kernel
theorem dX5_add_26 : decode cX5_add 26 = .ok (.aload_n 0, 1) := by decide +kernel
theorem dX5_add_27 : decode cX5_add 27 = .ok (.getfield 27, 3) := by decide +kernel
theorem dX5_add_30 : decode cX5_add 30 = .ok (.iload_n 2, 1) := by decide +kernel
theorem dX5_add_31 : decode cX5_add 31 = .ok (.iastore, 1) := by decide +kernel
theorem dX5_add_32 : decode cX5_add 32 = .ok (.aload_n 0, 1) := by decide +kernel
theorem dX5_add_33 : decode cX5_add 33 = .ok (.getfield 27, 3) := by decide +kernel
theorem dX5_add_36 : decode cX5_add 36 = .ok (.istore_n 3, 1) := by decide +kernel
theorem dX5_add_37 : decode cX5_add 37 = .ok (.aload_n 0, 1) := by decide +kernel
theorem dX5_add_38 : decode cX5_add 38 = .ok (.getfield 27, 3) := by decide +kernel
theorem dX5_add_41 : decode cX5_add 41 = .ok (.istore 4, 2) := by decide +kernel
theorem dX5_add_43 : decode cX5_add 43 = .ok (.iload 4, 2) := by decide +kernel
theorem dX5_add_45 : decode cX5_add 45 = .ok (.ifCond .le 48, 3) := by decide +kernel
theorem dX5_add_48 : decode cX5_add 48 = .ok (.aload_n 0, 1) := by decide +kernel
theorem dX5_add_49 : decode cX5_add 49 = .ok (.getfield 15, 3) := by decide +kernel
theorem dX5_add_52 : decode cX5_add 52 = .ok (.aload_n 0, 1) := by decide +kernel
theorem dX5_add_53 : decode cX5_add 53 = .ok (.getfield 18, 3) := by decide +kernel
theorem dX5_add_56 : decode cX5_add 56 = .ok (.iload 4, 2) := by decide +kernel
theorem dX5_add_58 : decode cX5_add 58 = .ok (.iconst 1, 1) := by decide +kernel
theorem dX5_add_59 : decode cX5_add 59 = .ok (.isub, 1) := by decide +kernel
theorem dX5_add_60 : decode cX5_add 60 = .ok (.iaload, 1) := by decide +kernel
theorem dX5_add_61 : decode cX5_add 61 = .ok (.iaload, 1) := by decide +kernel
theorem dX5_add_62 : decode cX5_add 62 = .ok (.iload_n 2, 1) := by decide +kernel
theorem dX5_add_63 : decode cX5_add 63 = .ok (.if_icmp .le 30, 3) := by decide +kernel
theorem dX5_add_66 : decode cX5_add 66 = .ok (.aload_n 0, 1) := by decide +kernel
theorem dX5_add_67 : decode cX5_add 67 = .ok (.getfield 18, 3) := by decide +kernel
theorem dX5_add_70 : decode cX5_add 70 = .ok (.iload 4, 2) := by decide +kernel
theorem dX5_add_72 : decode cX5_add 72 = .ok (.aload_n 0, 1) := by decide +kernel
theorem dX5_add_73 : decode cX5_add 73 = .ok (.getfield 18, 3) := by decide +kernel
theorem dX5_add_76 : decode cX5_add 76 = .ok (.iload 4, 2) := by decide +kernel
theorem dX5_add_78 : decode cX5_add 78 = .ok (.iconst 1, 1) := by decide +kernel
theorem dX5_add_79 : decode cX5_add 79 = .ok (.isub, 1) := by decide +kernel
theorem dX5_add_80 : decode cX5_add 80 = .ok (.iaload, 1) := by decide +kernel
theorem dX5_add_81 : decode cX5_add 81 = .ok (.iastore, 1) := by decide +kernel
theorem dX5_add_82 : decode cX5_add 82 = .ok (.iload 4, 2) := by decide +kernel
theorem dX5_add_84 : decode cX5_add 84 = .ok (.iconst 1, 1) := by decide +kernel
theorem dX5_add_85 : decode cX5_add 85 = .ok (.isub, 1) := by decide +kernel
theorem dX5_add_86 : decode cX5_add 86 = .ok (.istore_n 3, 1) := by decide +kernel
theorem dX5_add_87 : decode cX5_add 87 = .ok (.iinc 4 (-1), 3) := by decide +kernel
theorem dX5_add_90 : decode cX5_add 90 = .ok (.goto (-47), 3) := by decide +kernel
theorem dX5_add_93 : decode cX5_add 93 = .ok (.aload_n 0, 1) := by decide +kernel
theorem dX5_add_94 : decode cX5_add 94 = .ok (.getfield 18, 3) := by decide +kernel
theorem dX5_add_97 : decode cX5_add 97 = .ok (.iload_n 3, 1) := by decide +kernel
theorem dX5_add_98 : decode cX5_add 98 = .ok (.aload_n 0, 1) := by decide +kernel
theorem dX5_add_99 : decode cX5_add 99 = .ok (.getfield 27, 3) := by decide +kernel
theorem dX5_add_102 : decode cX5_add 102 = .ok (.iastore, 1) := by decide +kernel
theorem dX5_add_103 : decode cX5_add 103 = .ok (.aload_n 0, 1) := by decide +kernel
theorem dX5_add_104 : decode cX5_add 104 = .ok (.dup, 1) := by decide +kernel
theorem dX5_add_105 : decode cX5_add 105 = .ok (.getfield 27, 3) := by decide +kernel
theorem dX5_add_108 : decode cX5_add 108 = .ok (.dup_x1, 1) := by decide +kernel
theorem dX5_add_109 : decode cX5_add 109 = .ok (.iconst 1, 1) := by decide +kernel
theorem dX5_add_110 : decode cX5_add 110 = .ok (.iadd, 1) := by decide +kernel
theorem dX5_add_111 : decode cX5_add 111 = .ok (.putfield 27, 3) := by decide +kernel
theorem dX5_add_114 : decode cX5_add 114 = .ok (.ireturn, 1) := by decide +kernel
theorem cd_46 (G : ZG) (d : Nat) (K : ZKt) (F : ZFt) (hT : zt5 G.2.2.2) : CS G RX5 cX5_add 5 d K (some .int) [] (fun _ => []) 0 (bd_46 G.2.2.2 K F) := by
  unfold bd_46
  exact (CS.seq 12 (CS.if1 (T := 9) (F := 12) (CD.pure (CC.icmp_ge_F (T := 9) (F := 12) (CE.getI (CE.aload_n rfl dX5_add_0 zhd) fs_X5_27 dX5_add_1 zhd) (CE.bipush kB_6 dX5_add_4 zhd) dX5_add_6 rfl rfl)) (CS.retI (CX.pure (CE.bipush kB_m104 dX5_add_9 zhd)) dX5_add_11) zhd)
  (CS.seq 22 (CS.st (CE.getR (CE.aload_n rfl dX5_add_12 zhd) fs_X5_9 dX5_add_13 zhd) (CX.pure (CE.getI (CE.aload_n rfl dX5_add_16 zhd) fs_X5_27 dX5_add_17 zhd)) (CX.pure (CE.iload_n rfl dX5_add_20 zhd)) (Or.inl ⟨rfl, dX5_add_21⟩) zhd)
  (CS.seq 32 (CS.st (CE.getR (CE.aload_n rfl dX5_add_22 zhd) fs_X5_15 dX5_add_23 zhd) (CX.pure (CE.getI (CE.aload_n rfl dX5_add_26 zhd) fs_X5_27 dX5_add_27 zhd)) (CX.pure (CE.iload_n rfl dX5_add_30 zhd)) (Or.inl ⟨rfl, dX5_add_31⟩) zhd)
  (CS.seq 37 (CS.decI_n (CX.pure (CE.getI (CE.aload_n rfl dX5_add_32 zhd) fs_X5_27 dX5_add_33 zhd)) rfl (by decide) dX5_add_36 zhd)
  (CS.seq 93 (CS.scope (CS.seq 43 (CS.decI (CX.pure (CE.getI (CE.aload_n rfl dX5_add_37 zhd) fs_X5_27 dX5_add_38 zhd)) (by decide) dX5_add_41 zhd)
  (CS.whl (T := 66) (F := 93) (p1 := 90) (CD.pure (CC.and (CC.if_gt_F (T := 48) (F := 93) (CE.iload dX5_add_43 zhd) dX5_add_45 rfl rfl) (CC.icmp_gt_F (T := 66) (F := 93) (CE.aldI (CE.getR (CE.aload_n rfl dX5_add_48 zhd) fs_X5_15 dX5_add_49 zhd) (CE.aldI (CE.getR (CE.aload_n rfl dX5_add_52 zhd) fs_X5_18 dX5_add_53 zhd) (CE.isub (CE.iload dX5_add_56 zhd) (CE.iconst kI_1 dX5_add_58 zhd) dX5_add_59 zhd) (Or.inl ⟨rfl, dX5_add_60⟩) zhd) (Or.inl ⟨rfl, dX5_add_61⟩) zhd) (CE.iload_n rfl dX5_add_62 zhd) dX5_add_63 rfl rfl)))
  (CS.seq 87 (CS.seq 82 (CS.st (CE.getR (CE.aload_n rfl dX5_add_66 zhd) fs_X5_18 dX5_add_67 zhd) (CX.pure (CE.iload dX5_add_70 zhd)) (CX.pure (CE.aldI (CE.getR (CE.aload_n rfl dX5_add_72 zhd) fs_X5_18 dX5_add_73 zhd) (CE.isub (CE.iload dX5_add_76 zhd) (CE.iconst kI_1 dX5_add_78 zhd) dX5_add_79 zhd) (Or.inl ⟨rfl, dX5_add_80⟩) zhd)) (Or.inl ⟨rfl, dX5_add_81⟩) zhd)
  (CS.setI_n (CX.pure (CE.isub (CE.iload dX5_add_82 zhd) (CE.iconst kI_1 dX5_add_84 zhd) dX5_add_85 zhd)) rfl (by decide) dX5_add_86 zhd))
  (CS.inc kI_m1 (by decide) dX5_add_87 zhd)) dX5_add_90 rfl zhd)))
  (CS.seq 103 (CS.st (CE.getR (CE.aload_n rfl dX5_add_93 zhd) fs_X5_18 dX5_add_94 zhd) (CX.pure (CE.iload_n rfl dX5_add_97 zhd)) (CX.pure (CE.getI (CE.aload_n rfl dX5_add_98 zhd) fs_X5_27 dX5_add_99 zhd)) (Or.inl ⟨rfl, dX5_add_102⟩) zhd)
  (CS.retI (CX.inc (CE.aload_n rfl dX5_add_103 zhd) dX5_add_104 dX5_add_105 dX5_add_108 dX5_add_109 dX5_add_110 fs_X5_27 fp_X5_27 dX5_add_111 zhd) dX5_add_114)))))))
theorem dX5_search_0 : decode cX5_search 0 = .ok (.aload_n 0, 1) := by decide +kernel
theorem dX5_search_1 : decode cX5_search 1 = .ok (.dup, 1) := by decide +kernel
theorem dX5_search_2 : decode cX5_search 2 = .ok (.getfield 31, 3) := by decide +kernel
theorem dX5_search_5 : decode cX5_search 5 = .ok (.iconst 1, 1) := by decide +kernel
theorem dX5_search_6 : decode cX5_search 6 = .ok (.iadd, 1) := by decide +kernel
theorem dX5_search_7 : decode cX5_search 7 = .ok (.putfield 31, 3) := by decide +kernel
theorem dX5_search_10 : decode cX5_search 10 = .ok (.aload_n 0, 1) := by decide +kernel
theorem dX5_search_11 : decode cX5_search 11 = .ok (.iload_n 1, 1) := by decide +kernel
theorem dX5_search_12 : decode cX5_search 12 = .ok (.putfield 34, 3) := by decide +kernel
theorem dX5_search_15 : decode cX5_search 15 = .ok (.aload_n 0, 1) := by decide +kernel
theorem dX5_search_16 : decode cX5_search 16 = .ok (.iconst (-1), 1) := by decide +kernel
theorem dX5_search_17 : decode cX5_search 17 = .ok (.putfield 37, 3) := by decide +kernel
theorem dX5_search_20 : decode cX5_search 20 = .ok (.aload_n 0, 1) := by decide +kernel
theorem dX5_search_21 : decode cX5_search 21 = .ok (.iconst 0, 1) := by decide +kernel
theorem dX5_search_22 : decode cX5_search 22 = .ok (.iconst 0, 1) := by decide +kernel
theorem dX5_search_23 : decode cX5_search 23 = .ok (.aload_n 2, 1) := by decide +kernel
theorem dX5_search_24 : decode cX5_search 24 = .ok (.invokevirtual 40, 3) := by decide +kernel
theorem dX5_search_27 : decode cX5_search 27 = .ok (.return_, 1) := by decide +kernel
theorem cd_47 (G : ZG) (d : Nat) (K : ZKt) (F : ZFt) (hT : zt5 G.2.2.2) : CS G RX5 cX5_search 3 d K (none) [] (fun _ => []) 0 (bd_47 G.2.2.2 K F) := by
  unfold bd_47
  exact (CS.seq 27 (CS.seq 10 (CS.upd (CE.aload_n rfl dX5_search_0 zhd) dX5_search_1 dX5_search_2 (CE.iconst kI_1 dX5_search_5 zhd) (Or.inl ⟨rfl, dX5_search_6⟩) fs_X5_31 fp_X5_31 dX5_search_7 zhd)
  (CS.seq 15 (CS.put (CE.aload_n rfl dX5_search_10 zhd) (CX.pure (CE.iload_n rfl dX5_search_11 zhd)) fp_X5_34 rfl dX5_search_12 zhd)
  (CS.seq 20 (CS.put (CE.aload_n rfl dX5_search_15 zhd) (CX.pure (CE.iconst kI_m1 dX5_search_16 zhd)) fp_X5_37 rfl dX5_search_17 zhd)
  (CS.callV (CA.ref (CE.aload_n rfl dX5_search_20 zhd) (CA.int (CE.iconst kI_0 dX5_search_21 zhd) (CA.int (CE.iconst kI_0 dX5_search_22 zhd) (CA.ref (CE.aload_n rfl dX5_search_23 zhd) CA.nil)))) zi_48 cv_X5_40 (fun _ => rfl) dX5_search_24 zhd))))
  (CS.retV dX5_search_27))
theorem dX5_choose_0 : decode cX5_choose 0 = .ok (.iload_n 1, 1) := by decide +kernel
theorem dX5_choose_1 : decode cX5_choose 1 = .ok (.aload_n 0, 1) := by decide +kernel
theorem dX5_choose_2 : decode cX5_choose 2 = .ok (.getfield 27, 3) := by decide +kernel
theorem dX5_choose_5 : decode cX5_choose 5 = .ok (.if_icmp .gt 19, 3) := by decide +kernel
theorem dX5_choose_8 : decode cX5_choose 8 = .ok (.aload_n 0, 1) := by decide +kernel
theorem dX5_choose_9 : decode cX5_choose 9 = .ok (.getfield 37, 3) := by decide +kernel
theorem dX5_choose_12 : decode cX5_choose 12 = .ok (.iconst (-1), 1) := by decide +kernel
theorem dX5_choose_13 : decode cX5_choose 13 = .ok (.if_icmp .eq 12, 3) := by decide +kernel
theorem dX5_choose_16 : decode cX5_choose 16 = .ok (.iload_n 2, 1) := by decide +kernel
theorem dX5_choose_17 : decode cX5_choose 17 = .ok (.aload_n 0, 1) := by decide +kernel
theorem dX5_choose_18 : decode cX5_choose 18 = .ok (.getfield 37, 3) := by decide +kernel
theorem dX5_choose_21 : decode cX5_choose 21 = .ok (.if_icmp .lt 4, 3) := by decide +kernel
theorem dX5_choose_24 : decode cX5_choose 24 = .ok (.return_, 1) := by decide +kernel
theorem dX5_choose_25 : decode cX5_choose 25 = .ok (.iload_n 1, 1) := by decide +kernel
theorem dX5_choose_26 : decode cX5_choose 26 = .ok (.aload_n 0, 1) := by decide +kernel
theorem dX5_choose_27 : decode cX5_choose 27 = .ok (.getfield 27, 3) := by decide +kernel
theorem dX5_choose_30 : decode cX5_choose 30 = .ok (.if_icmp .ne 26, 3) := by decide +kernel
theorem dX5_choose_33 : decode cX5_choose 33 = .ok (.aload_n 0, 1) := by decide +kernel
theorem dX5_choose_34 : decode cX5_choose 34 = .ok (.iload_n 2, 1) := by decide +kernel
theorem dX5_choose_35 : decode cX5_choose 35 = .ok (.putfield 37, 3) := by decide +kernel
theorem dX5_choose_38 : decode cX5_choose 38 = .ok (.aload_n 0, 1) := by decide +kernel
theorem dX5_choose_39 : decode cX5_choose 39 = .ok (.getfield 24, 3) := by decide +kernel
theorem dX5_choose_42 : decode cX5_choose 42 = .ok (.iconst 0, 1) := by decide +kernel
theorem dX5_choose_43 : decode cX5_choose 43 = .ok (.aload_n 0, 1) := by decide +kernel
theorem dX5_choose_44 : decode cX5_choose 44 = .ok (.getfield 21, 3) := by decide +kernel
theorem dX5_choose_47 : decode cX5_choose 47 = .ok (.iconst 0, 1) := by decide +kernel
theorem dX5_choose_48 : decode cX5_choose 48 = .ok (.aload_n 0, 1) := by decide +kernel
theorem dX5_choose_49 : decode cX5_choose 49 = .ok (.getfield 27, 3) := by decide +kernel
theorem dX5_choose_52 : decode cX5_choose 52 = .ok (.invokestatic 44, 3) := by decide +kernel
theorem dX5_choose_55 : decode cX5_choose 55 = .ok (.return_, 1) := by decide +kernel
theorem dX5_choose_56 : decode cX5_choose 56 = .ok (.iconst 0, 1) := by decide +kernel
theorem dX5_choose_57 : decode cX5_choose 57 = .ok (.istore 4, 2) := by decide +kernel
theorem dX5_choose_59 : decode cX5_choose 59 = .ok (.iload 4, 2) := by decide +kernel
theorem dX5_choose_61 : decode cX5_choose 61 = .ok (.iconst 4, 1) := by decide +kernel
theorem dX5_choose_62 : decode cX5_choose 62 = .ok (.if_icmp .ge 73, 3) := by decide +kernel
theorem dX5_choose_65 : decode cX5_choose 65 = .ok (.aload_n 3, 1) := by decide +kernel
theorem dX5_choose_66 : decode cX5_choose 66 = .ok (.getfield 50, 3) := by decide +kernel
theorem dX5_choose_69 : decode cX5_choose 69 = .ok (.iload 4, 2) := by decide +kernel
theorem dX5_choose_71 : decode cX5_choose 71 = .ok (.aaload, 1) := by decide +kernel
theorem dX5_choose_72 : decode cX5_choose 72 = .ok (.aload_n 0, 1) := by decide +kernel
theorem dX5_choose_73 : decode cX5_choose 73 = .ok (.getfield 9, 3) := by decide +kernel
theorem dX5_choose_76 : decode cX5_choose 76 = .ok (.iload_n 1, 1) := by decide +kernel
theorem dX5_choose_77 : decode cX5_choose 77 = .ok (.iaload, 1) := by decide +kernel
theorem dX5_choose_78 : decode cX5_choose 78 = .ok (.iaload, 1) := by decide +kernel
theorem dX5_choose_79 : decode cX5_choose 79 = .ok (.istore 5, 2) := by decide +kernel
theorem dX5_choose_81 : decode cX5_choose 81 = .ok (.iload 4, 2) := by decide +kernel
theorem dX5_choose_83 : decode cX5_choose 83 = .ok (.aload_n 0, 1) := by decide +kernel
theorem dX5_choose_84 : decode cX5_choose 84 = .ok (.getfield 34, 3) := by decide +kernel
theorem dX5_choose_87 : decode cX5_choose 87 = .ok (.if_icmp .eq 42, 3) := by decide +kernel
theorem dX5_choose_90 : decode cX5_choose 90 = .ok (.iload 5, 2) := by decide +kernel
theorem dX5_choose_92 : decode cX5_choose 92 = .ok (.ifCond .ne 6, 3) := by decide +kernel
theorem dX5_choose_95 : decode cX5_choose 95 = .ok (.goto 34, 3) := by decide +kernel
theorem dX5_choose_98 : decode cX5_choose 98 = .ok (.aload_n 0, 1) := by decide +kernel
theorem dX5_choose_99 : decode cX5_choose 99 = .ok (.getfield 24, 3) := by decide +kernel
theorem dX5_choose_102 : decode cX5_choose 102 = .ok (.iload_n 1, 1) := by decide +kernel
theorem dX5_choose_103 : decode cX5_choose 103 = .ok (.iload 4, 2) := by decide +kernel
theorem dX5_choose_105 : decode cX5_choose 105 = .ok (.iastore, 1) := by decide +kernel
theorem dX5_choose_106 : decode cX5_choose 106 = .ok (.aload_n 0, 1) := by decide +kernel
theorem dX5_choose_107 : decode cX5_choose 107 = .ok (.iload 4, 2) := by decide +kernel
theorem dX5_choose_109 : decode cX5_choose 109 = .ok (.iload_n 1, 1) := by decide +kernel
theorem dX5_choose_110 : decode cX5_choose 110 = .ok (.aload_n 3, 1) := by decide +kernel
theorem dX5_choose_111 : decode cX5_choose 111 = .ok (.invokevirtual 56, 3) := by decide +kernel
theorem dX5_choose_114 : decode cX5_choose 114 = .ok (.ifCond .eq 15, 3) := by decide +kernel
theorem dX5_choose_117 : decode cX5_choose 117 = .ok (.aload_n 0, 1) := by decide +kernel
theorem dX5_choose_118 : decode cX5_choose 118 = .ok (.iload_n 1, 1) := by decide +kernel
theorem dX5_choose_119 : decode cX5_choose 119 = .ok (.iconst 1, 1) := by decide +kernel
theorem dX5_choose_120 : decode cX5_choose 120 = .ok (.iadd, 1) := by decide +kernel
theorem dX5_choose_121 : decode cX5_choose 121 = .ok (.iload_n 2, 1) := by decide +kernel
theorem dX5_choose_122 : decode cX5_choose 122 = .ok (.iload 5, 2) := by decide +kernel
theorem dX5_choose_124 : decode cX5_choose 124 = .ok (.iadd, 1) := by decide +kernel
theorem dX5_choose_125 : decode cX5_choose 125 = .ok (.aload_n 3, 1) := by decide +kernel
theorem dX5_choose_126 : decode cX5_choose 126 = .ok (.invokevirtual 40, 3) := by decide +kernel
theorem dX5_choose_129 : decode cX5_choose 129 = .ok (.iinc 4 1, 3) := by decide +kernel
theorem dX5_choose_132 : decode cX5_choose 132 = .ok (.goto (-73), 3) := by decide +kernel
theorem dX5_choose_135 : decode cX5_choose 135 = .ok (.return_, 1) := by decide +kernel
theorem cd_48 (G : ZG) (d : Nat) (K : ZKt) (F : ZFt) (hT : zt5 G.2.2.2) : CS G RX5 cX5_choose 6 d K (none) [] (fun _ => []) 0 (bd_48 G.2.2.2 K F) := by
  unfold bd_48
  exact (CS.seq 135 (CS.seq 25 (CS.if1 (T := 24) (F := 25) (CD.pure (CC.or (CC.icmp_gt_T (T := 24) (F := 8) (CE.iload_n rfl dX5_choose_0 zhd) (CE.getI (CE.aload_n rfl dX5_choose_1 zhd) fs_X5_27 dX5_choose_2 zhd) dX5_choose_5 rfl rfl) (CC.and (CC.icmp_ne_F (T := 16) (F := 25) (CE.getI (CE.aload_n rfl dX5_choose_8 zhd) fs_X5_37 dX5_choose_9 zhd) (CE.iconst kI_m1 dX5_choose_12 zhd) dX5_choose_13 rfl rfl) (CC.icmp_ge_F (T := 24) (F := 25) (CE.iload_n rfl dX5_choose_16 zhd) (CE.getI (CE.aload_n rfl dX5_choose_17 zhd) fs_X5_37 dX5_choose_18 zhd) dX5_choose_21 rfl rfl)))) (CS.retV dX5_choose_24) zhd)
  (CS.seq 56 (CS.if1 (T := 33) (F := 56) (CD.pure (CC.icmp_eq_F (T := 33) (F := 56) (CE.iload_n rfl dX5_choose_25 zhd) (CE.getI (CE.aload_n rfl dX5_choose_26 zhd) fs_X5_27 dX5_choose_27 zhd) dX5_choose_30 rfl rfl)) (CS.seq 38 (CS.put (CE.aload_n rfl dX5_choose_33 zhd) (CX.pure (CE.iload_n rfl dX5_choose_34 zhd)) fp_X5_37 rfl dX5_choose_35 zhd)
  (CS.seq 55 (CS.cpy (CE.getR (CE.aload_n rfl dX5_choose_38 zhd) fs_X5_24 dX5_choose_39 zhd) dX5_choose_42 (CE.getR (CE.aload_n rfl dX5_choose_43 zhd) fs_X5_21 dX5_choose_44 zhd) dX5_choose_47 (CE.getI (CE.aload_n rfl dX5_choose_48 zhd) fs_X5_27 dX5_choose_49 zhd) sy_X5_44 dX5_choose_52 zhd)
  (CS.retV dX5_choose_55))) zhd)
  (CS.scope (CS.seq 59 (CS.decI (CX.pure (CE.iconst kI_0 dX5_choose_56 zhd)) (by decide) dX5_choose_57 zhd)
  (CS.for (T := 65) (F := 135) (pu := 129) (p1 := 132) (kb := 1) (kc := 2) (CD.pure (CC.icmp_lt_F (T := 65) (F := 135) (CE.iload dX5_choose_59 zhd) (CE.iconst kI_4 dX5_choose_61 zhd) dX5_choose_62 rfl rfl))
  (CS.scope (CS.seq 81 (CS.decI (CX.pure (CE.aldI (CE.aldR (CE.getR (CE.aload_n rfl dX5_choose_65 zhd) fs_X5_50 dX5_choose_66 zhd) (CE.iload dX5_choose_69 zhd) dX5_choose_71 zhd) (CE.aldI (CE.getR (CE.aload_n rfl dX5_choose_72 zhd) fs_X5_9 dX5_choose_73 zhd) (CE.iload_n rfl dX5_choose_76 zhd) (Or.inl ⟨rfl, dX5_choose_77⟩) zhd) (Or.inl ⟨rfl, dX5_choose_78⟩) zhd)) (by decide) dX5_choose_79 zhd)
  (CS.seq 98 (CS.ifT (F := 98) (CDT.or (CDT.of (CD.pure (CC.icmp_eq_T (T := 129) (F := 90) (CE.iload dX5_choose_81 zhd) (CE.getI (CE.aload_n rfl dX5_choose_83 zhd) fs_X5_34 dX5_choose_84 zhd) dX5_choose_87 rfl rfl)) zh1) (CDT.of (CD.pure (CC.if_eq_F (T := 95) (F := 98) (CE.iload dX5_choose_90 zhd) dX5_choose_92 rfl rfl)) zhd)) (CS.brk (q := 129) dX5_choose_95 rfl zhd) (CS.brk0 zhd) zhd)
  (CS.seq 106 (CS.st (CE.getR (CE.aload_n rfl dX5_choose_98 zhd) fs_X5_24 dX5_choose_99 zhd) (CX.pure (CE.iload_n rfl dX5_choose_102 zhd)) (CX.pure (CE.iload dX5_choose_103 zhd)) (Or.inl ⟨rfl, dX5_choose_105⟩) zhd)
  (CS.if1 (T := 117) (F := 129) (CD.pure (CC.if_ne_F (T := 117) (F := 129) (CE.callV (by decide) (CA.ref (CE.aload_n rfl dX5_choose_106 zhd) (CA.int (CE.iload dX5_choose_107 zhd) (CA.int (CE.iload_n rfl dX5_choose_109 zhd) (CA.ref (CE.aload_n rfl dX5_choose_110 zhd) CA.nil)))) zi_49 cv_X5_56 (fun _ => rfl) dX5_choose_111 zhd) dX5_choose_114 rfl rfl)) (CS.callV (CA.ref (CE.aload_n rfl dX5_choose_117 zhd) (CA.int (CE.iadd (CE.iload_n rfl dX5_choose_118 zhd) (CE.iconst kI_1 dX5_choose_119 zhd) dX5_choose_120 zhd) (CA.int (CE.iadd (CE.iload_n rfl dX5_choose_121 zhd) (CE.iload dX5_choose_122 zhd) dX5_choose_124 zhd) (CA.ref (CE.aload_n rfl dX5_choose_125 zhd) CA.nil)))) zi_48 cv_X5_40 (fun _ => rfl) dX5_choose_126 zhd) zhd))))) (CS.inc kI_1 (by decide) dX5_choose_129 zhd) dX5_choose_132 rfl zhd)))))
  (CS.retV dX5_choose_135))
theorem dX5_inTime_0 : decode cX5_inTime 0 = .ok (.iconst 0, 1) := by decide +kernel
theorem dX5_inTime_1 : decode cX5_inTime 1 = .ok (.istore 4, 2) := by decide +kernel
theorem dX5_inTime_3 : decode cX5_inTime 3 = .ok (.iconst 0, 1) := by decide +kernel
theorem dX5_inTime_4 : decode cX5_inTime 4 = .ok (.istore 5, 2) := by decide +kernel
theorem dX5_inTime_6 : decode cX5_inTime 6 = .ok (.iload 5, 2) := by decide +kernel
theorem dX5_inTime_8 : decode cX5_inTime 8 = .ok (.aload_n 0, 1) := by decide +kernel
theorem dX5_inTime_9 : decode cX5_inTime 9 = .ok (.getfield 27, 3) := by decide +kernel
theorem dX5_inTime_12 : decode cX5_inTime 12 = .ok (.if_icmp .ge 78, 3) := by decide +kernel
theorem dX5_inTime_15 : decode cX5_inTime 15 = .ok (.aload_n 0, 1) := by decide +kernel
theorem dX5_inTime_16 : decode cX5_inTime 16 = .ok (.getfield 18, 3) := by decide +kernel
theorem dX5_inTime_19 : decode cX5_inTime 19 = .ok (.iload 5, 2) := by decide +kernel
theorem dX5_inTime_21 : decode cX5_inTime 21 = .ok (.iaload, 1) := by decide +kernel
theorem dX5_inTime_22 : decode cX5_inTime 22 = .ok (.istore 6, 2) := by decide +kernel
theorem dX5_inTime_24 : decode cX5_inTime 24 = .ok (.iload 6, 2) := by decide +kernel
theorem dX5_inTime_26 : decode cX5_inTime 26 = .ok (.iload_n 2, 1) := by decide +kernel
theorem dX5_inTime_27 : decode cX5_inTime 27 = .ok (.if_icmp .gt 57, 3) := by decide +kernel
theorem dX5_inTime_30 : decode cX5_inTime 30 = .ok (.aload_n 0, 1) := by decide +kernel
theorem dX5_inTime_31 : decode cX5_inTime 31 = .ok (.getfield 24, 3) := by decide +kernel
theorem dX5_inTime_34 : decode cX5_inTime 34 = .ok (.iload 6, 2) := by decide +kernel
theorem dX5_inTime_36 : decode cX5_inTime 36 = .ok (.iaload, 1) := by decide +kernel
theorem dX5_inTime_37 : decode cX5_inTime 37 = .ok (.iload_n 1, 1) := by decide +kernel
theorem dX5_inTime_38 : decode cX5_inTime 38 = .ok (.if_icmp .eq 6, 3) := by decide +kernel
theorem dX5_inTime_41 : decode cX5_inTime 41 = .ok (.goto 43, 3) := by decide +kernel
theorem dX5_inTime_44 : decode cX5_inTime 44 = .ok (.iload 4, 2) := by decide +kernel
theorem dX5_inTime_46 : decode cX5_inTime 46 = .ok (.aload_n 3, 1) := by decide +kernel
theorem dX5_inTime_47 : decode cX5_inTime 47 = .ok (.getfield 60, 3) := by decide +kernel
theorem dX5_inTime_50 : decode cX5_inTime 50 = .ok (.iload_n 1, 1) := by decide +kernel
theorem dX5_inTime_51 : decode cX5_inTime 51 = .ok (.aaload, 1) := by decide +kernel
theorem dX5_inTime_52 : decode cX5_inTime 52 = .ok (.aload_n 0, 1) := by decide +kernel
theorem dX5_inTime_53 : decode cX5_inTime 53 = .ok (.getfield 9, 3) := by decide +kernel
theorem dX5_inTime_56 : decode cX5_inTime 56 = .ok (.iload 6, 2) := by decide +kernel
theorem dX5_inTime_58 : decode cX5_inTime 58 = .ok (.iaload, 1) := by decide +kernel
theorem dX5_inTime_59 : decode cX5_inTime 59 = .ok (.iaload, 1) := by decide +kernel
theorem dX5_inTime_60 : decode cX5_inTime 60 = .ok (.iadd, 1) := by decide +kernel
theorem dX5_inTime_61 : decode cX5_inTime 61 = .ok (.istore 4, 2) := by decide +kernel
theorem dX5_inTime_63 : decode cX5_inTime 63 = .ok (.iload 4, 2) := by decide +kernel
theorem dX5_inTime_65 : decode cX5_inTime 65 = .ok (.aload_n 0, 1) := by decide +kernel
theorem dX5_inTime_66 : decode cX5_inTime 66 = .ok (.getfield 15, 3) := by decide +kernel
theorem dX5_inTime_69 : decode cX5_inTime 69 = .ok (.iload 6, 2) := by decide +kernel
theorem dX5_inTime_71 : decode cX5_inTime 71 = .ok (.iaload, 1) := by decide +kernel
theorem dX5_inTime_72 : decode cX5_inTime 72 = .ok (.aload_n 3, 1) := by decide +kernel
theorem dX5_inTime_73 : decode cX5_inTime 73 = .ok (.getfield 63, 3) := by decide +kernel
theorem dX5_inTime_76 : decode cX5_inTime 76 = .ok (.iload_n 1, 1) := by decide +kernel
theorem dX5_inTime_77 : decode cX5_inTime 77 = .ok (.iaload, 1) := by decide +kernel
theorem dX5_inTime_78 : decode cX5_inTime 78 = .ok (.imul, 1) := by decide +kernel
theorem dX5_inTime_79 : decode cX5_inTime 79 = .ok (.if_icmp .le 5, 3) := by decide +kernel
theorem dX5_inTime_82 : decode cX5_inTime 82 = .ok (.iconst 0, 1) := by decide +kernel
theorem dX5_inTime_83 : decode cX5_inTime 83 = .ok (.ireturn, 1) := by decide +kernel
theorem dX5_inTime_84 : decode cX5_inTime 84 = .ok (.iinc 5 1, 3) := by decide +kernel
theorem dX5_inTime_87 : decode cX5_inTime 87 = .ok (.goto (-81), 3) := by decide +kernel
theorem dX5_inTime_90 : decode cX5_inTime 90 = .ok (.iconst 1, 1) := by decide +kernel
theorem dX5_inTime_91 : decode cX5_inTime 91 = .ok (.ireturn, 1) := by decide +kernel
theorem cd_49 (G : ZG) (d : Nat) (K : ZKt) (F : ZFt) (hT : zt5 G.2.2.2) : CS G RX5 cX5_inTime 7 d K (some .boolean) [] (fun _ => []) 0 (bd_49 G.2.2.2 K F) := by
  unfold bd_49
  exact (CS.seq 3 (CS.decI (CX.pure (CE.iconst kI_0 dX5_inTime_0 zhd)) (by decide) dX5_inTime_1 zhd)
  (CS.seq 90 (CS.scope (CS.seq 6 (CS.decI (CX.pure (CE.iconst kI_0 dX5_inTime_3 zhd)) (by decide) dX5_inTime_4 zhd)
  (CS.for (T := 15) (F := 90) (pu := 84) (p1 := 87) (kb := 1) (kc := 2) (CD.pure (CC.icmp_lt_F (T := 15) (F := 90) (CE.iload dX5_inTime_6 zhd) (CE.getI (CE.aload_n rfl dX5_inTime_8 zhd) fs_X5_27 dX5_inTime_9 zhd) dX5_inTime_12 rfl rfl))
  (CS.scope (CS.seq 24 (CS.decI (CX.pure (CE.aldI (CE.getR (CE.aload_n rfl dX5_inTime_15 zhd) fs_X5_18 dX5_inTime_16 zhd) (CE.iload dX5_inTime_19 zhd) (Or.inl ⟨rfl, dX5_inTime_21⟩) zhd)) (by decide) dX5_inTime_22 zhd)
  (CS.seq 44 (CS.ifT (F := 44) (CDT.or (CDT.of (CD.pure (CC.icmp_gt_T (T := 84) (F := 30) (CE.iload dX5_inTime_24 zhd) (CE.iload_n rfl dX5_inTime_26 zhd) dX5_inTime_27 rfl rfl)) zh1) (CDT.of (CD.pure (CC.icmp_ne_F (T := 41) (F := 44) (CE.aldI (CE.getR (CE.aload_n rfl dX5_inTime_30 zhd) fs_X5_24 dX5_inTime_31 zhd) (CE.iload dX5_inTime_34 zhd) (Or.inl ⟨rfl, dX5_inTime_36⟩) zhd) (CE.iload_n rfl dX5_inTime_37 zhd) dX5_inTime_38 rfl rfl)) zhd)) (CS.brk (q := 84) dX5_inTime_41 rfl zhd) (CS.brk0 zhd) zhd)
  (CS.seq 63 (CS.setI (CX.pure (CE.iadd (CE.iload dX5_inTime_44 zhd) (CE.aldI (CE.aldR (CE.getR (CE.aload_n rfl dX5_inTime_46 zhd) fs_X5_60 dX5_inTime_47 zhd) (CE.iload_n rfl dX5_inTime_50 zhd) dX5_inTime_51 zhd) (CE.aldI (CE.getR (CE.aload_n rfl dX5_inTime_52 zhd) fs_X5_9 dX5_inTime_53 zhd) (CE.iload dX5_inTime_56 zhd) (Or.inl ⟨rfl, dX5_inTime_58⟩) zhd) (Or.inl ⟨rfl, dX5_inTime_59⟩) zhd) dX5_inTime_60 zhd)) (by decide) dX5_inTime_61 zhd)
  (CS.if1 (T := 82) (F := 84) (CD.pure (CC.icmp_gt_F (T := 82) (F := 84) (CE.iload dX5_inTime_63 zhd) (CE.imul (CE.aldI (CE.getR (CE.aload_n rfl dX5_inTime_65 zhd) fs_X5_15 dX5_inTime_66 zhd) (CE.iload dX5_inTime_69 zhd) (Or.inl ⟨rfl, dX5_inTime_71⟩) zhd) (CE.aldI (CE.getR (CE.aload_n rfl dX5_inTime_72 zhd) fs_X5_63 dX5_inTime_73 zhd) (CE.iload_n rfl dX5_inTime_76 zhd) (Or.inl ⟨rfl, dX5_inTime_77⟩) zhd) dX5_inTime_78 zhd) dX5_inTime_79 rfl rfl)) (CS.retZ (CX.pure (CE.iconst kI_0 dX5_inTime_82 zhd)) dX5_inTime_83) zhd))))) (CS.inc kI_1 (by decide) dX5_inTime_84 zhd) dX5_inTime_87 rfl zhd)))
  (CS.retZ (CX.pure (CE.iconst kI_1 dX5_inTime_90 zhd)) dX5_inTime_91)))
theorem dX5_shopFor_0 : decode cX5_shopFor 0 = .ok (.aload_n 0, 1) := by decide +kernel
theorem dX5_shopFor_1 : decode cX5_shopFor 1 = .ok (.getfield 37, 3) := by decide +kernel
theorem dX5_shopFor_4 : decode cX5_shopFor 4 = .ok (.iconst (-1), 1) := by decide +kernel
theorem dX5_shopFor_5 : decode cX5_shopFor 5 = .ok (.if_icmp .eq 23, 3) := by decide +kernel
theorem dX5_shopFor_8 : decode cX5_shopFor 8 = .ok (.iload_n 1, 1) := by decide +kernel
theorem dX5_shopFor_9 : decode cX5_shopFor 9 = .ok (.aload_n 0, 1) := by decide +kernel
theorem dX5_shopFor_10 : decode cX5_shopFor 10 = .ok (.getfield 27, 3) := by decide +kernel
theorem dX5_shopFor_13 : decode cX5_shopFor 13 = .ok (.invokestatic 66, 3) := by decide +kernel
theorem dX5_shopFor_16 : decode cX5_shopFor 16 = .ok (.ifCond .eq 12, 3) := by decide +kernel
theorem dX5_shopFor_19 : decode cX5_shopFor 19 = .ok (.aload_n 0, 1) := by decide +kernel
theorem dX5_shopFor_20 : decode cX5_shopFor 20 = .ok (.getfield 21, 3) := by decide +kernel
theorem dX5_shopFor_23 : decode cX5_shopFor 23 = .ok (.iload_n 1, 1) := by decide +kernel
theorem dX5_shopFor_24 : decode cX5_shopFor 24 = .ok (.iaload, 1) := by decide +kernel
theorem dX5_shopFor_25 : decode cX5_shopFor 25 = .ok (.goto 4, 3) := by decide +kernel
theorem dX5_shopFor_28 : decode cX5_shopFor 28 = .ok (.iconst (-1), 1) := by decide +kernel
theorem dX5_shopFor_29 : decode cX5_shopFor 29 = .ok (.ireturn, 1) := by decide +kernel
theorem cd_50 (G : ZG) (d : Nat) (K : ZKt) (F : ZFt) (hT : zt5 G.2.2.2) : CS G RX5 cX5_shopFor 2 d K (some .int) [] (fun _ => []) 0 (bd_50 G.2.2.2 K F) := by
  unfold bd_50
  exact (CS.retI (CX.pure (CE.tern (T := 19) (F := 28) (p1 := 25) (q := 29) (CC.and (CC.icmp_ne_F (T := 8) (F := 28) (CE.getI (CE.aload_n rfl dX5_shopFor_0 zhd) fs_X5_37 dX5_shopFor_1 zhd) (CE.iconst kI_m1 dX5_shopFor_4 zhd) dX5_shopFor_5 rfl rfl) (CC.if_ne_F (T := 19) (F := 28) (CE.callS (by decide) (CA.int (CE.iload_n rfl dX5_shopFor_8 zhd) (CA.int (CE.getI (CE.aload_n rfl dX5_shopFor_9 zhd) fs_X5_27 dX5_shopFor_10 zhd) CA.nil)) zi_129 cs_X5_66 (fun _ => rfl) dX5_shopFor_13 zhd) dX5_shopFor_16 rfl rfl)) (CE.aldI (CE.getR (CE.aload_n rfl dX5_shopFor_19 zhd) fs_X5_21 dX5_shopFor_20 zhd) (CE.iload_n rfl dX5_shopFor_23 zhd) (Or.inl ⟨rfl, dX5_shopFor_24⟩) zhd) zex2 dX5_shopFor_25 rfl zhd (CE.iconst kI_m1 dX5_shopFor_28 zhd))) dX5_shopFor_29)
theorem dX5_dayFor_0 : decode cX5_dayFor 0 = .ok (.aload_n 0, 1) := by decide +kernel
theorem dX5_dayFor_1 : decode cX5_dayFor 1 = .ok (.iload_n 1, 1) := by decide +kernel
theorem dX5_dayFor_2 : decode cX5_dayFor 2 = .ok (.invokevirtual 70, 3) := by decide +kernel
theorem dX5_dayFor_5 : decode cX5_dayFor 5 = .ok (.istore_n 3, 1) := by decide +kernel
theorem dX5_dayFor_6 : decode cX5_dayFor 6 = .ok (.iload_n 3, 1) := by decide +kernel
theorem dX5_dayFor_7 : decode cX5_dayFor 7 = .ok (.iconst 4, 1) := by decide +kernel
theorem dX5_dayFor_8 : decode cX5_dayFor 8 = .ok (.invokestatic 66, 3) := by decide +kernel
theorem dX5_dayFor_11 : decode cX5_dayFor 11 = .ok (.ifCond .ne 5, 3) := by decide +kernel
theorem dX5_dayFor_14 : decode cX5_dayFor 14 = .ok (.iconst (-1), 1) := by decide +kernel
theorem dX5_dayFor_15 : decode cX5_dayFor 15 = .ok (.ireturn, 1) := by decide +kernel
theorem dX5_dayFor_16 : decode cX5_dayFor 16 = .ok (.iconst 0, 1) := by decide +kernel
theorem dX5_dayFor_17 : decode cX5_dayFor 17 = .ok (.istore 4, 2) := by decide +kernel
theorem dX5_dayFor_19 : decode cX5_dayFor 19 = .ok (.iconst 0, 1) := by decide +kernel
theorem dX5_dayFor_20 : decode cX5_dayFor 20 = .ok (.istore 5, 2) := by decide +kernel
theorem dX5_dayFor_22 : decode cX5_dayFor 22 = .ok (.iload 5, 2) := by decide +kernel
theorem dX5_dayFor_24 : decode cX5_dayFor 24 = .ok (.aload_n 0, 1) := by decide +kernel
theorem dX5_dayFor_25 : decode cX5_dayFor 25 = .ok (.getfield 27, 3) := by decide +kernel
theorem dX5_dayFor_28 : decode cX5_dayFor 28 = .ok (.if_icmp .ge 63, 3) := by decide +kernel
theorem dX5_dayFor_31 : decode cX5_dayFor 31 = .ok (.aload_n 0, 1) := by decide +kernel
theorem dX5_dayFor_32 : decode cX5_dayFor 32 = .ok (.getfield 21, 3) := by decide +kernel
theorem dX5_dayFor_35 : decode cX5_dayFor 35 = .ok (.aload_n 0, 1) := by decide +kernel
theorem dX5_dayFor_36 : decode cX5_dayFor 36 = .ok (.getfield 18, 3) := by decide +kernel
theorem dX5_dayFor_39 : decode cX5_dayFor 39 = .ok (.iload 5, 2) := by decide +kernel
theorem dX5_dayFor_41 : decode cX5_dayFor 41 = .ok (.iaload, 1) := by decide +kernel
theorem dX5_dayFor_42 : decode cX5_dayFor 42 = .ok (.iaload, 1) := by decide +kernel
theorem dX5_dayFor_43 : decode cX5_dayFor 43 = .ok (.iload_n 3, 1) := by decide +kernel
theorem dX5_dayFor_44 : decode cX5_dayFor 44 = .ok (.if_icmp .ne 27, 3) := by decide +kernel
theorem dX5_dayFor_47 : decode cX5_dayFor 47 = .ok (.iload 4, 2) := by decide +kernel
theorem dX5_dayFor_49 : decode cX5_dayFor 49 = .ok (.aload_n 2, 1) := by decide +kernel
theorem dX5_dayFor_50 : decode cX5_dayFor 50 = .ok (.getfield 60, 3) := by decide +kernel
theorem dX5_dayFor_53 : decode cX5_dayFor 53 = .ok (.iload_n 3, 1) := by decide +kernel
theorem dX5_dayFor_54 : decode cX5_dayFor 54 = .ok (.aaload, 1) := by decide +kernel
theorem dX5_dayFor_55 : decode cX5_dayFor 55 = .ok (.aload_n 0, 1) := by decide +kernel
theorem dX5_dayFor_56 : decode cX5_dayFor 56 = .ok (.getfield 9, 3) := by decide +kernel
theorem dX5_dayFor_59 : decode cX5_dayFor 59 = .ok (.aload_n 0, 1) := by decide +kernel
theorem dX5_dayFor_60 : decode cX5_dayFor 60 = .ok (.getfield 18, 3) := by decide +kernel
theorem dX5_dayFor_63 : decode cX5_dayFor 63 = .ok (.iload 5, 2) := by decide +kernel
theorem dX5_dayFor_65 : decode cX5_dayFor 65 = .ok (.iaload, 1) := by decide +kernel
theorem dX5_dayFor_66 : decode cX5_dayFor 66 = .ok (.iaload, 1) := by decide +kernel
theorem dX5_dayFor_67 : decode cX5_dayFor 67 = .ok (.iaload, 1) := by decide +kernel
theorem dX5_dayFor_68 : decode cX5_dayFor 68 = .ok (.iadd, 1) := by decide +kernel
theorem dX5_dayFor_69 : decode cX5_dayFor 69 = .ok (.istore 4, 2) := by decide +kernel
theorem dX5_dayFor_71 : decode cX5_dayFor 71 = .ok (.aload_n 0, 1) := by decide +kernel
theorem dX5_dayFor_72 : decode cX5_dayFor 72 = .ok (.getfield 18, 3) := by decide +kernel
theorem dX5_dayFor_75 : decode cX5_dayFor 75 = .ok (.iload 5, 2) := by decide +kernel
theorem dX5_dayFor_77 : decode cX5_dayFor 77 = .ok (.iaload, 1) := by decide +kernel
theorem dX5_dayFor_78 : decode cX5_dayFor 78 = .ok (.iload_n 1, 1) := by decide +kernel
theorem dX5_dayFor_79 : decode cX5_dayFor 79 = .ok (.if_icmp .ne 6, 3) := by decide +kernel
theorem dX5_dayFor_82 : decode cX5_dayFor 82 = .ok (.goto 9, 3) := by decide +kernel
theorem dX5_dayFor_85 : decode cX5_dayFor 85 = .ok (.iinc 5 1, 3) := by decide +kernel
theorem dX5_dayFor_88 : decode cX5_dayFor 88 = .ok (.goto (-66), 3) := by decide +kernel
theorem dX5_dayFor_91 : decode cX5_dayFor 91 = .ok (.iload 4, 2) := by decide +kernel
theorem dX5_dayFor_93 : decode cX5_dayFor 93 = .ok (.aload_n 2, 1) := by decide +kernel
theorem dX5_dayFor_94 : decode cX5_dayFor 94 = .ok (.getfield 63, 3) := by decide +kernel
theorem dX5_dayFor_97 : decode cX5_dayFor 97 = .ok (.iload_n 3, 1) := by decide +kernel
theorem dX5_dayFor_98 : decode cX5_dayFor 98 = .ok (.iaload, 1) := by decide +kernel
theorem dX5_dayFor_99 : decode cX5_dayFor 99 = .ok (.invokestatic 74, 3) := by decide +kernel
theorem dX5_dayFor_102 : decode cX5_dayFor 102 = .ok (.ireturn, 1) := by decide +kernel
theorem cd_51 (G : ZG) (d : Nat) (K : ZKt) (F : ZFt) (hT : zt5 G.2.2.2) : CS G RX5 cX5_dayFor 6 d K (some .int) [] (fun _ => []) 0 (bd_51 G.2.2.2 K F) := by
  unfold bd_51
  exact (CS.seq 6 (CS.decI_n (CX.pure (CE.callV (by decide) (CA.ref (CE.aload_n rfl dX5_dayFor_0 zhd) (CA.int (CE.iload_n rfl dX5_dayFor_1 zhd) CA.nil)) zi_50 cv_X5_70 (fun _ => rfl) dX5_dayFor_2 zhd)) rfl (by decide) dX5_dayFor_5 zhd)
  (CS.seq 16 (CS.if1 (T := 14) (F := 16) (CD.pure (CC.not (CC.if_ne_T (T := 16) (F := 14) (CE.callS (by decide) (CA.int (CE.iload_n rfl dX5_dayFor_6 zhd) (CA.int (CE.iconst kI_4 dX5_dayFor_7 zhd) CA.nil)) zi_129 cs_X5_66 (fun _ => rfl) dX5_dayFor_8 zhd) dX5_dayFor_11 rfl rfl))) (CS.retI (CX.pure (CE.iconst kI_m1 dX5_dayFor_14 zhd)) dX5_dayFor_15) zhd)
  (CS.seq 19 (CS.decI (CX.pure (CE.iconst kI_0 dX5_dayFor_16 zhd)) (by decide) dX5_dayFor_17 zhd)
  (CS.seq 91 (CS.scope (CS.seq 22 (CS.decI (CX.pure (CE.iconst kI_0 dX5_dayFor_19 zhd)) (by decide) dX5_dayFor_20 zhd)
  (CS.for (T := 31) (F := 91) (pu := 85) (p1 := 88) (kb := 1) (kc := 2) (CD.pure (CC.icmp_lt_F (T := 31) (F := 91) (CE.iload dX5_dayFor_22 zhd) (CE.getI (CE.aload_n rfl dX5_dayFor_24 zhd) fs_X5_27 dX5_dayFor_25 zhd) dX5_dayFor_28 rfl rfl))
  (CS.seq 71 (CS.if1 (T := 47) (F := 71) (CD.pure (CC.icmp_eq_F (T := 47) (F := 71) (CE.aldI (CE.getR (CE.aload_n rfl dX5_dayFor_31 zhd) fs_X5_21 dX5_dayFor_32 zhd) (CE.aldI (CE.getR (CE.aload_n rfl dX5_dayFor_35 zhd) fs_X5_18 dX5_dayFor_36 zhd) (CE.iload dX5_dayFor_39 zhd) (Or.inl ⟨rfl, dX5_dayFor_41⟩) zhd) (Or.inl ⟨rfl, dX5_dayFor_42⟩) zhd) (CE.iload_n rfl dX5_dayFor_43 zhd) dX5_dayFor_44 rfl rfl)) (CS.setI (CX.pure (CE.iadd (CE.iload dX5_dayFor_47 zhd) (CE.aldI (CE.aldR (CE.getR (CE.aload_n rfl dX5_dayFor_49 zhd) fs_X5_60 dX5_dayFor_50 zhd) (CE.iload_n rfl dX5_dayFor_53 zhd) dX5_dayFor_54 zhd) (CE.aldI (CE.getR (CE.aload_n rfl dX5_dayFor_55 zhd) fs_X5_9 dX5_dayFor_56 zhd) (CE.aldI (CE.getR (CE.aload_n rfl dX5_dayFor_59 zhd) fs_X5_18 dX5_dayFor_60 zhd) (CE.iload dX5_dayFor_63 zhd) (Or.inl ⟨rfl, dX5_dayFor_65⟩) zhd) (Or.inl ⟨rfl, dX5_dayFor_66⟩) zhd) (Or.inl ⟨rfl, dX5_dayFor_67⟩) zhd) dX5_dayFor_68 zhd)) (by decide) dX5_dayFor_69 zhd) zhd)
  (CS.ifT (F := 85) (CDT.of (CD.pure (CC.icmp_eq_F (T := 82) (F := 85) (CE.aldI (CE.getR (CE.aload_n rfl dX5_dayFor_71 zhd) fs_X5_18 dX5_dayFor_72 zhd) (CE.iload dX5_dayFor_75 zhd) (Or.inl ⟨rfl, dX5_dayFor_77⟩) zhd) (CE.iload_n rfl dX5_dayFor_78 zhd) dX5_dayFor_79 rfl rfl)) zhd) (CS.brk (q := 91) dX5_dayFor_82 rfl zhd) (CS.brk0 zhd) zhd)) (CS.inc kI_1 (by decide) dX5_dayFor_85 zhd) dX5_dayFor_88 rfl zhd)))
  (CS.retI (CX.pure (CE.callS (by decide) (CA.int (CE.iload dX5_dayFor_91 zhd) (CA.int (CE.aldI (CE.getR (CE.aload_n rfl dX5_dayFor_93 zhd) fs_X5_63 dX5_dayFor_94 zhd) (CE.iload_n rfl dX5_dayFor_97 zhd) (Or.inl ⟨rfl, dX5_dayFor_98⟩) zhd) CA.nil)) zi_52 cs_X5_74 (fun _ => rfl) dX5_dayFor_99 zhd)) dX5_dayFor_102)))))
theorem dX5_roundedUp_0 : decode cX5_roundedUp 0 = .ok (.iload_n 1, 1) := by decide +kernel
theorem dX5_roundedUp_1 : decode cX5_roundedUp 1 = .ok (.iconst 1, 1) := by decide +kernel
theorem dX5_roundedUp_2 : decode cX5_roundedUp 2 = .ok (.if_icmp .ge 7, 3) := by decide +kernel
theorem dX5_roundedUp_5 : decode cX5_roundedUp 5 = .ok (.iconst (-1), 1) := by decide +kernel
theorem dX5_roundedUp_6 : decode cX5_roundedUp 6 = .ok (.goto 10, 3) := by decide +kernel
theorem dX5_roundedUp_9 : decode cX5_roundedUp 9 = .ok (.iload_n 0, 1) := by decide +kernel
theorem dX5_roundedUp_10 : decode cX5_roundedUp 10 = .ok (.iload_n 1, 1) := by decide +kernel
theorem dX5_roundedUp_11 : decode cX5_roundedUp 11 = .ok (.iadd, 1) := by decide +kernel
theorem dX5_roundedUp_12 : decode cX5_roundedUp 12 = .ok (.iconst 1, 1) := by decide +kernel
theorem dX5_roundedUp_13 : decode cX5_roundedUp 13 = .ok (.isub, 1) := by decide +kernel
theorem dX5_roundedUp_14 : decode cX5_roundedUp 14 = .ok (.iload_n 1, 1) := by decide +kernel
theorem dX5_roundedUp_15 : decode cX5_roundedUp 15 = .ok (.idiv, 1) := by decide +kernel
theorem dX5_roundedUp_16 : decode cX5_roundedUp 16 = .ok (.ireturn, 1) := by decide +kernel
theorem cd_52 (G : ZG) (d : Nat) (K : ZKt) (F : ZFt) (hT : zt5 G.2.2.2) : CS G RX5 cX5_roundedUp 2 d K (some .int) [] (fun _ => []) 0 (bd_52 G.2.2.2 K F) := by
  unfold bd_52
  exact (CS.retI (CX.pure (CE.tern (T := 5) (F := 9) (p1 := 6) (q := 16) (CC.icmp_lt_F (T := 5) (F := 9) (CE.iload_n rfl dX5_roundedUp_0 zhd) (CE.iconst kI_1 dX5_roundedUp_1 zhd) dX5_roundedUp_2 rfl rfl) (CE.iconst kI_m1 dX5_roundedUp_5 zhd) zex2 dX5_roundedUp_6 rfl zhd (CE.idiv (CE.isub (CE.iadd (CE.iload_n rfl dX5_roundedUp_9 zhd) (CE.iload_n rfl dX5_roundedUp_10 zhd) dX5_roundedUp_11 zhd) (CE.iconst kI_1 dX5_roundedUp_12 zhd) dX5_roundedUp_13 zhd) (CE.iload_n rfl dX5_roundedUp_14 zhd) dX5_roundedUp_15 zhd))) dX5_roundedUp_16)
theorem dX5_fold_0 : decode cX5_fold 0 = .ok (.lload_n 1, 1) := by decide +kernel
theorem dX5_fold_1 : decode cX5_fold 1 = .ok (.lstore_n 3, 1) := by decide +kernel
theorem dX5_fold_2 : decode cX5_fold 2 = .ok (.iconst 0, 1) := by decide +kernel
theorem dX5_fold_3 : decode cX5_fold 3 = .ok (.istore 5, 2) := by decide +kernel
theorem dX5_fold_5 : decode cX5_fold 5 = .ok (.iload 5, 2) := by decide +kernel
theorem dX5_fold_7 : decode cX5_fold 7 = .ok (.aload_n 0, 1) := by decide +kernel
theorem dX5_fold_8 : decode cX5_fold 8 = .ok (.getfield 27, 3) := by decide +kernel
theorem dX5_fold_11 : decode cX5_fold 11 = .ok (.if_icmp .ge 33, 3) := by decide +kernel
theorem dX5_fold_14 : decode cX5_fold 14 = .ok (.lload_n 3, 1) := by decide +kernel
theorem dX5_fold_15 : decode cX5_fold 15 = .ok (.aload_n 0, 1) := by decide +kernel
theorem dX5_fold_16 : decode cX5_fold 16 = .ok (.getfield 9, 3) := by decide +kernel
theorem dX5_fold_19 : decode cX5_fold 19 = .ok (.iload 5, 2) := by decide +kernel
theorem dX5_fold_21 : decode cX5_fold 21 = .ok (.iaload, 1) := by decide +kernel
theorem dX5_fold_22 : decode cX5_fold 22 = .ok (.i2l, 1) := by decide +kernel
theorem dX5_fold_23 : decode cX5_fold 23 = .ok (.invokestatic 78, 3) := by decide +kernel
theorem dX5_fold_26 : decode cX5_fold 26 = .ok (.aload_n 0, 1) := by decide +kernel
theorem dX5_fold_27 : decode cX5_fold 27 = .ok (.getfield 15, 3) := by decide +kernel
theorem dX5_fold_30 : decode cX5_fold 30 = .ok (.iload 5, 2) := by decide +kernel
theorem dX5_fold_32 : decode cX5_fold 32 = .ok (.iaload, 1) := by decide +kernel
theorem dX5_fold_33 : decode cX5_fold 33 = .ok (.i2l, 1) := by decide +kernel
theorem dX5_fold_34 : decode cX5_fold 34 = .ok (.invokestatic 78, 3) := by decide +kernel
theorem dX5_fold_37 : decode cX5_fold 37 = .ok (.lstore_n 3, 1) := by decide +kernel
theorem dX5_fold_38 : decode cX5_fold 38 = .ok (.iinc 5 1, 3) := by decide +kernel
theorem dX5_fold_41 : decode cX5_fold 41 = .ok (.goto (-36), 3) := by decide +kernel
theorem dX5_fold_44 : decode cX5_fold 44 = .ok (.lload_n 3, 1) := by decide +kernel
theorem dX5_fold_45 : decode cX5_fold 45 = .ok (.lreturn, 1) := by decide +kernel
theorem cd_53 (G : ZG) (d : Nat) (K : ZKt) (F : ZFt) (hT : zt5 G.2.2.2) : CS G RX5 cX5_fold 6 d K (some .long) [] (fun _ => []) 0 (bd_53 G.2.2.2 K F) := by
  unfold bd_53
  exact (CS.seq 2 (CS.decL_n (CX.pure (CE.lload_n rfl dX5_fold_0 zhd)) rfl (by decide) dX5_fold_1 zhd)
  (CS.seq 44 (CS.scope (CS.seq 5 (CS.decI (CX.pure (CE.iconst kI_0 dX5_fold_2 zhd)) (by decide) dX5_fold_3 zhd)
  (CS.whl (T := 14) (F := 44) (p1 := 41) (CD.pure (CC.icmp_lt_F (T := 14) (F := 44) (CE.iload dX5_fold_5 zhd) (CE.getI (CE.aload_n rfl dX5_fold_7 zhd) fs_X5_27 dX5_fold_8 zhd) dX5_fold_11 rfl rfl))
  (CS.seq 38 (CS.setL_n (CX.pure (CE.callS (by decide) (CA.long (CE.callS (by decide) (CA.long (CE.lload_n rfl dX5_fold_14 zhd) (CA.long (CE.i2l (CE.aldI (CE.getR (CE.aload_n rfl dX5_fold_15 zhd) fs_X5_9 dX5_fold_16 zhd) (CE.iload dX5_fold_19 zhd) (Or.inl ⟨rfl, dX5_fold_21⟩) zhd) dX5_fold_22 zhd) CA.nil)) zi_132 cs_X5_78 (fun _ => rfl) dX5_fold_23 zhd) (CA.long (CE.i2l (CE.aldI (CE.getR (CE.aload_n rfl dX5_fold_26 zhd) fs_X5_15 dX5_fold_27 zhd) (CE.iload dX5_fold_30 zhd) (Or.inl ⟨rfl, dX5_fold_32⟩) zhd) dX5_fold_33 zhd) CA.nil)) zi_132 cs_X5_78 (fun _ => rfl) dX5_fold_34 zhd)) rfl (by decide) dX5_fold_37 zhd)
  (CS.inc kI_1 (by decide) dX5_fold_38 zhd)) dX5_fold_41 rfl zhd)))
  (CS.retL (CX.pure (CE.lload_n rfl dX5_fold_44 zhd)) dX5_fold_45)))
theorem dX6_write_0 : decode cX6_write 0 = .ok (.aload_n 0, 1) := by decide +kernel
theorem dX6_write_1 : decode cX6_write 1 = .ok (.getfield 21, 3) := by decide +kernel
theorem dX6_write_4 : decode cX6_write 4 = .ok (.bipush 40, 2) := by decide +kernel
theorem dX6_write_6 : decode cX6_write 6 = .ok (.if_icmp .ge 20, 3) := by decide +kernel
theorem dX6_write_9 : decode cX6_write 9 = .ok (.aload_n 0, 1) := by decide +kernel
theorem dX6_write_10 : decode cX6_write 10 = .ok (.getfield 9, 3) := by decide +kernel
theorem dX6_write_13 : decode cX6_write 13 = .ok (.aload_n 0, 1) := by decide +kernel
theorem dX6_write_14 : decode cX6_write 14 = .ok (.dup, 1) := by decide +kernel
theorem dX6_write_15 : decode cX6_write 15 = .ok (.getfield 21, 3) := by decide +kernel
theorem dX6_write_18 : decode cX6_write 18 = .ok (.dup_x1, 1) := by decide +kernel
theorem dX6_write_19 : decode cX6_write 19 = .ok (.iconst 1, 1) := by decide +kernel
theorem dX6_write_20 : decode cX6_write 20 = .ok (.iadd, 1) := by decide +kernel
theorem dX6_write_21 : decode cX6_write 21 = .ok (.putfield 21, 3) := by decide +kernel
theorem dX6_write_24 : decode cX6_write 24 = .ok (.iload_n 1, 1) := by decide +kernel
theorem dX6_write_25 : decode cX6_write 25 = .ok (.iastore, 1) := by decide +kernel
theorem dX6_write_26 : decode cX6_write 26 = .ok (.return_, 1) := by decide +kernel
theorem cd_54 (G : ZG) (d : Nat) (K : ZKt) (F : ZFt) (hT : zt5 G.2.2.2) : CS G RX6 cX6_write 2 d K (none) [] (fun _ => []) 0 (bd_54 G.2.2.2 K F) := by
  unfold bd_54
  exact (CS.seq 26 (CS.if1 (T := 9) (F := 26) (CD.pure (CC.icmp_lt_F (T := 9) (F := 26) (CE.getI (CE.aload_n rfl dX6_write_0 zhd) fs_X6_21 dX6_write_1 zhd) (CE.bipush kB_40 dX6_write_4 zhd) dX6_write_6 rfl rfl)) (CS.st (CE.getR (CE.aload_n rfl dX6_write_9 zhd) fs_X6_9 dX6_write_10 zhd) (CX.inc (CE.aload_n rfl dX6_write_13 zhd) dX6_write_14 dX6_write_15 dX6_write_18 dX6_write_19 dX6_write_20 fs_X6_21 fp_X6_21 dX6_write_21 zhd) (CX.pure (CE.iload_n rfl dX6_write_24 zhd)) (Or.inl ⟨rfl, dX6_write_25⟩) zhd) zhd)
  (CS.retV dX6_write_26))
theorem dX6_read_0 : decode cX6_read 0 = .ok (.aload_n 0, 1) := by decide +kernel
theorem dX6_read_1 : decode cX6_read 1 = .ok (.iconst 0, 1) := by decide +kernel
theorem dX6_read_2 : decode cX6_read 2 = .ok (.putfield 25, 3) := by decide +kernel
theorem dX6_read_5 : decode cX6_read 5 = .ok (.aload_n 0, 1) := by decide +kernel
theorem dX6_read_6 : decode cX6_read 6 = .ok (.iconst 0, 1) := by decide +kernel
theorem dX6_read_7 : decode cX6_read 7 = .ok (.putfield 28, 3) := by decide +kernel
theorem dX6_read_10 : decode cX6_read 10 = .ok (.aload_n 0, 1) := by decide +kernel
theorem dX6_read_11 : decode cX6_read 11 = .ok (.iconst 0, 1) := by decide +kernel
theorem dX6_read_12 : decode cX6_read 12 = .ok (.putfield 31, 3) := by decide +kernel
theorem dX6_read_15 : decode cX6_read 15 = .ok (.iconst 0, 1) := by decide +kernel
theorem dX6_read_16 : decode cX6_read 16 = .ok (.istore_n 1, 1) := by decide +kernel
theorem dX6_read_17 : decode cX6_read 17 = .ok (.iload_n 1, 1) := by decide +kernel
theorem dX6_read_18 : decode cX6_read 18 = .ok (.bipush 6, 2) := by decide +kernel
theorem dX6_read_20 : decode cX6_read 20 = .ok (.if_icmp .ge 24, 3) := by decide +kernel
theorem dX6_read_23 : decode cX6_read 23 = .ok (.aload_n 0, 1) := by decide +kernel
theorem dX6_read_24 : decode cX6_read 24 = .ok (.invokevirtual 35, 3) := by decide +kernel
theorem dX6_read_27 : decode cX6_read 27 = .ok (.ifCond .eq 17, 3) := by decide +kernel
theorem dX6_read_30 : decode cX6_read 30 = .ok (.aload_n 0, 1) := by decide +kernel
theorem dX6_read_31 : decode cX6_read 31 = .ok (.invokevirtual 39, 3) := by decide +kernel
theorem dX6_read_34 : decode cX6_read 34 = .ok (.ifCond .ne 4, 3) := by decide +kernel
theorem dX6_read_37 : decode cX6_read 37 = .ok (.return_, 1) := by decide +kernel
theorem dX6_read_38 : decode cX6_read 38 = .ok (.iinc 1 1, 3) := by decide +kernel
theorem dX6_read_41 : decode cX6_read 41 = .ok (.goto (-24), 3) := by decide +kernel
theorem dX6_read_44 : decode cX6_read 44 = .ok (.aload_n 0, 1) := by decide +kernel
theorem dX6_read_45 : decode cX6_read 45 = .ok (.getfield 28, 3) := by decide +kernel
theorem dX6_read_48 : decode cX6_read 48 = .ok (.ifCond .eq 19, 3) := by decide +kernel
theorem dX6_read_51 : decode cX6_read 51 = .ok (.aload_n 0, 1) := by decide +kernel
theorem dX6_read_52 : decode cX6_read 52 = .ok (.bipush 61, 2) := by decide +kernel
theorem dX6_read_54 : decode cX6_read 54 = .ok (.invokevirtual 42, 3) := by decide +kernel
theorem dX6_read_57 : decode cX6_read 57 = .ok (.ifCond .eq 10, 3) := by decide +kernel
theorem dX6_read_60 : decode cX6_read 60 = .ok (.aload_n 0, 1) := by decide +kernel
theorem dX6_read_61 : decode cX6_read 61 = .ok (.invokevirtual 46, 3) := by decide +kernel
theorem dX6_read_64 : decode cX6_read 64 = .ok (.ifCond .ne 4, 3) := by decide +kernel
theorem dX6_read_67 : decode cX6_read 67 = .ok (.return_, 1) := by decide +kernel
theorem dX6_read_68 : decode cX6_read 68 = .ok (.aload_n 0, 1) := by decide +kernel
theorem dX6_read_69 : decode cX6_read 69 = .ok (.aload_n 0, 1) := by decide +kernel
theorem dX6_read_70 : decode cX6_read 70 = .ok (.getfield 49, 3) := by decide +kernel
theorem dX6_read_73 : decode cX6_read 73 = .ok (.putfield 52, 3) := by decide +kernel
theorem dX6_read_76 : decode cX6_read 76 = .ok (.aload_n 0, 1) := by decide +kernel
theorem dX6_read_77 : decode cX6_read 77 = .ok (.bipush 126, 2) := by decide +kernel
theorem dX6_read_79 : decode cX6_read 79 = .ok (.invokevirtual 42, 3) := by decide +kernel
theorem dX6_read_82 : decode cX6_read 82 = .ok (.ifCond .eq 10, 3) := by decide +kernel
theorem dX6_read_85 : decode cX6_read 85 = .ok (.aload_n 0, 1) := by decide +kernel
theorem dX6_read_86 : decode cX6_read 86 = .ok (.invokevirtual 46, 3) := by decide +kernel
theorem dX6_read_89 : decode cX6_read 89 = .ok (.ifCond .ne 4, 3) := by decide +kernel
theorem dX6_read_92 : decode cX6_read 92 = .ok (.return_, 1) := by decide +kernel
theorem dX6_read_93 : decode cX6_read 93 = .ok (.aload_n 0, 1) := by decide +kernel
theorem dX6_read_94 : decode cX6_read 94 = .ok (.aload_n 0, 1) := by decide +kernel
theorem dX6_read_95 : decode cX6_read 95 = .ok (.getfield 49, 3) := by decide +kernel
theorem dX6_read_98 : decode cX6_read 98 = .ok (.putfield 55, 3) := by decide +kernel
theorem dX6_read_101 : decode cX6_read 101 = .ok (.aload_n 0, 1) := by decide +kernel
theorem dX6_read_102 : decode cX6_read 102 = .ok (.aload_n 0, 1) := by decide +kernel
theorem dX6_read_103 : decode cX6_read 103 = .ok (.getfield 25, 3) := by decide +kernel
theorem dX6_read_106 : decode cX6_read 106 = .ok (.aload_n 0, 1) := by decide +kernel
theorem dX6_read_107 : decode cX6_read 107 = .ok (.getfield 21, 3) := by decide +kernel
theorem dX6_read_110 : decode cX6_read 110 = .ok (.if_icmp .ne 7, 3) := by decide +kernel
theorem dX6_read_113 : decode cX6_read 113 = .ok (.iconst 1, 1) := by decide +kernel
theorem dX6_read_114 : decode cX6_read 114 = .ok (.goto 4, 3) := by decide +kernel
theorem dX6_read_117 : decode cX6_read 117 = .ok (.iconst 0, 1) := by decide +kernel
theorem dX6_read_118 : decode cX6_read 118 = .ok (.putfield 31, 3) := by decide +kernel
theorem dX6_read_121 : decode cX6_read 121 = .ok (.return_, 1) := by decide +kernel
theorem cd_55 (G : ZG) (d : Nat) (K : ZKt) (F : ZFt) (hT : zt5 G.2.2.2) : CS G RX6 cX6_read 2 d K (none) [] (fun _ => []) 0 (bd_55 G.2.2.2 K F) := by
  unfold bd_55
  exact (CS.seq 121 (CS.seq 5 (CS.put (CE.aload_n rfl dX6_read_0 zhd) (CX.pure (CE.iconst kI_0 dX6_read_1 zhd)) fp_X6_25 rfl dX6_read_2 zhd)
  (CS.seq 10 (CS.put (CE.aload_n rfl dX6_read_5 zhd) (CX.pure (CE.iconst kI_0 dX6_read_6 zhd)) fp_X6_28 rfl dX6_read_7 zhd)
  (CS.seq 15 (CS.put (CE.aload_n rfl dX6_read_10 zhd) (CX.pure (CE.iconst kI_0 dX6_read_11 zhd)) fp_X6_31 rfl dX6_read_12 zhd)
  (CS.seq 44 (CS.scope (CS.seq 17 (CS.decI_n (CX.pure (CE.iconst kI_0 dX6_read_15 zhd)) rfl (by decide) dX6_read_16 zhd)
  (CS.whl (T := 30) (F := 44) (p1 := 41) (CD.pure (CC.and (CC.icmp_lt_F (T := 23) (F := 44) (CE.iload_n rfl dX6_read_17 zhd) (CE.bipush kB_6 dX6_read_18 zhd) dX6_read_20 rfl rfl) (CC.if_ne_F (T := 30) (F := 44) (CE.callV (by decide) (CA.ref (CE.aload_n rfl dX6_read_23 zhd) CA.nil) zi_57 cv_X6_35 (fun _ => rfl) dX6_read_24 zhd) dX6_read_27 rfl rfl)))
  (CS.seq 38 (CS.if1 (T := 37) (F := 38) (CD.not (CD.nz_T (T := 38) (F := 37) (CX.callV (by decide) (CA.ref (CE.aload_n rfl dX6_read_30 zhd) CA.nil) zi_59 cv_X6_39 (fun _ => rfl) dX6_read_31 zhd) dX6_read_34 rfl rfl)) (CS.retV dX6_read_37) zhd)
  (CS.inc kI_1 (by decide) dX6_read_38 zhd)) dX6_read_41 rfl zhd)))
  (CS.seq 68 (CS.if1 (T := 67) (F := 68) (CD.or (CD.or (CD.pure (CC.if_eq_T (T := 67) (F := 51) (CE.getI (CE.aload_n rfl dX6_read_44 zhd) fs_X6_28 dX6_read_45 zhd) dX6_read_48 rfl rfl)) (CD.not (CD.nz_F (T := 60) (F := 67) (CX.callV (by decide) (CA.ref (CE.aload_n rfl dX6_read_51 zhd) (CA.int (CE.bipush kB_61 dX6_read_52 zhd) CA.nil)) zi_58 cv_X6_42 (fun _ => rfl) dX6_read_54 zhd) dX6_read_57 rfl rfl))) (CD.not (CD.nz_T (T := 68) (F := 67) (CX.callV (by decide) (CA.ref (CE.aload_n rfl dX6_read_60 zhd) CA.nil) zi_60 cv_X6_46 (fun _ => rfl) dX6_read_61 zhd) dX6_read_64 rfl rfl))) (CS.retV dX6_read_67) zhd)
  (CS.seq 76 (CS.put (CE.aload_n rfl dX6_read_68 zhd) (CX.pure (CE.getI (CE.aload_n rfl dX6_read_69 zhd) fs_X6_49 dX6_read_70 zhd)) fp_X6_52 rfl dX6_read_73 zhd)
  (CS.seq 93 (CS.if1 (T := 92) (F := 93) (CD.or (CD.not (CD.nz_F (T := 85) (F := 92) (CX.callV (by decide) (CA.ref (CE.aload_n rfl dX6_read_76 zhd) (CA.int (CE.bipush kB_126 dX6_read_77 zhd) CA.nil)) zi_58 cv_X6_42 (fun _ => rfl) dX6_read_79 zhd) dX6_read_82 rfl rfl)) (CD.not (CD.nz_T (T := 93) (F := 92) (CX.callV (by decide) (CA.ref (CE.aload_n rfl dX6_read_85 zhd) CA.nil) zi_60 cv_X6_46 (fun _ => rfl) dX6_read_86 zhd) dX6_read_89 rfl rfl))) (CS.retV dX6_read_92) zhd)
  (CS.seq 101 (CS.put (CE.aload_n rfl dX6_read_93 zhd) (CX.pure (CE.getI (CE.aload_n rfl dX6_read_94 zhd) fs_X6_49 dX6_read_95 zhd)) fp_X6_55 rfl dX6_read_98 zhd)
  (CS.put (CE.aload_n rfl dX6_read_101 zhd) (CX.pure (CE.bool (T := 113) (F := 117) (q := 118) (CC.icmp_eq_F (T := 113) (F := 117) (CE.getI (CE.aload_n rfl dX6_read_102 zhd) fs_X6_25 dX6_read_103 zhd) (CE.getI (CE.aload_n rfl dX6_read_106 zhd) fs_X6_21 dX6_read_107 zhd) dX6_read_110 rfl rfl) dX6_read_113 rfl dX6_read_114 rfl zhd dX6_read_117 zhd)) fp_X6_31 rfl dX6_read_118 zhd)))))))))
  (CS.retV dX6_read_121))
theorem dX6_nextIs_0 : decode cX6_nextIs 0 = .ok (.aload_n 0, 1) := by decide +kernel
theorem dX6_nextIs_1 : decode cX6_nextIs 1 = .ok (.getfield 25, 3) := by decide +kernel
theorem dX6_nextIs_4 : decode cX6_nextIs 4 = .ok (.aload_n 0, 1) := by decide +kernel
theorem dX6_nextIs_5 : decode cX6_nextIs 5 = .ok (.getfield 21, 3) := by decide +kernel
theorem dX6_nextIs_8 : decode cX6_nextIs 8 = .ok (.if_icmp .ge 33, 3) := by decide +kernel
theorem dX6_nextIs_11 : decode cX6_nextIs 11 = .ok (.aload_n 0, 1) := by decide +kernel
theorem dX6_nextIs_12 : decode cX6_nextIs 12 = .ok (.getfield 25, 3) := by decide +kernel
theorem dX6_nextIs_15 : decode cX6_nextIs 15 = .ok (.bipush 40, 2) := by decide +kernel
theorem dX6_nextIs_17 : decode cX6_nextIs 17 = .ok (.if_icmp .ge 24, 3) := by decide +kernel
theorem dX6_nextIs_20 : decode cX6_nextIs 20 = .ok (.aload_n 0, 1) := by decide +kernel
theorem dX6_nextIs_21 : decode cX6_nextIs 21 = .ok (.getfield 9, 3) := by decide +kernel
theorem dX6_nextIs_24 : decode cX6_nextIs 24 = .ok (.aload_n 0, 1) := by decide +kernel
theorem dX6_nextIs_25 : decode cX6_nextIs 25 = .ok (.getfield 25, 3) := by decide +kernel
theorem dX6_nextIs_28 : decode cX6_nextIs 28 = .ok (.iaload, 1) := by decide +kernel
theorem dX6_nextIs_29 : decode cX6_nextIs 29 = .ok (.iload_n 1, 1) := by decide +kernel
theorem dX6_nextIs_30 : decode cX6_nextIs 30 = .ok (.iload_n 2, 1) := by decide +kernel
theorem dX6_nextIs_31 : decode cX6_nextIs 31 = .ok (.invokestatic 58, 3) := by decide +kernel
theorem dX6_nextIs_34 : decode cX6_nextIs 34 = .ok (.ifCond .eq 7, 3) := by decide +kernel
theorem dX6_nextIs_37 : decode cX6_nextIs 37 = .ok (.iconst 1, 1) := by decide +kernel
theorem dX6_nextIs_38 : decode cX6_nextIs 38 = .ok (.goto 4, 3) := by decide +kernel
theorem dX6_nextIs_41 : decode cX6_nextIs 41 = .ok (.iconst 0, 1) := by decide +kernel
theorem dX6_nextIs_42 : decode cX6_nextIs 42 = .ok (.ireturn, 1) := by decide +kernel
theorem cd_56 (G : ZG) (d : Nat) (K : ZKt) (F : ZFt) (hT : zt5 G.2.2.2) : CS G RX6 cX6_nextIs 3 d K (some .boolean) [] (fun _ => []) 0 (bd_56 G.2.2.2 K F) := by
  unfold bd_56
  exact (CS.retZ (CX.pure (CE.bool (T := 37) (F := 41) (q := 42) (CC.and (CC.and (CC.icmp_lt_F (T := 11) (F := 41) (CE.getI (CE.aload_n rfl dX6_nextIs_0 zhd) fs_X6_25 dX6_nextIs_1 zhd) (CE.getI (CE.aload_n rfl dX6_nextIs_4 zhd) fs_X6_21 dX6_nextIs_5 zhd) dX6_nextIs_8 rfl rfl) (CC.icmp_lt_F (T := 20) (F := 41) (CE.getI (CE.aload_n rfl dX6_nextIs_11 zhd) fs_X6_25 dX6_nextIs_12 zhd) (CE.bipush kB_40 dX6_nextIs_15 zhd) dX6_nextIs_17 rfl rfl)) (CC.if_ne_F (T := 37) (F := 41) (CE.callS (by decide) (CA.int (CE.aldI (CE.getR (CE.aload_n rfl dX6_nextIs_20 zhd) fs_X6_9 dX6_nextIs_21 zhd) (CE.getI (CE.aload_n rfl dX6_nextIs_24 zhd) fs_X6_25 dX6_nextIs_25 zhd) (Or.inl ⟨rfl, dX6_nextIs_28⟩) zhd) (CA.int (CE.iload_n rfl dX6_nextIs_29 zhd) (CA.int (CE.iload_n rfl dX6_nextIs_30 zhd) CA.nil))) zi_130 cs_X6_58 (fun _ => rfl) dX6_nextIs_31 zhd) dX6_nextIs_34 rfl rfl)) dX6_nextIs_37 rfl dX6_nextIs_38 rfl zhd dX6_nextIs_41 zhd)) dX6_nextIs_42)
theorem dX6_nextIsSign_0 : decode cX6_nextIsSign 0 = .ok (.aload_n 0, 1) := by decide +kernel
theorem dX6_nextIsSign_1 : decode cX6_nextIsSign 1 = .ok (.bipush 43, 2) := by decide +kernel
theorem dX6_nextIsSign_3 : decode cX6_nextIsSign 3 = .ok (.bipush 43, 2) := by decide +kernel
theorem dX6_nextIsSign_5 : decode cX6_nextIsSign 5 = .ok (.invokevirtual 62, 3) := by decide +kernel
theorem dX6_nextIsSign_8 : decode cX6_nextIsSign 8 = .ok (.ifCond .ne 14, 3) := by decide +kernel
theorem dX6_nextIsSign_11 : decode cX6_nextIsSign 11 = .ok (.aload_n 0, 1) := by decide +kernel
theorem dX6_nextIsSign_12 : decode cX6_nextIsSign 12 = .ok (.bipush 45, 2) := by decide +kernel
theorem dX6_nextIsSign_14 : decode cX6_nextIsSign 14 = .ok (.bipush 45, 2) := by decide +kernel
theorem dX6_nextIsSign_16 : decode cX6_nextIsSign 16 = .ok (.invokevirtual 62, 3) := by decide +kernel
theorem dX6_nextIsSign_19 : decode cX6_nextIsSign 19 = .ok (.ifCond .eq 7, 3) := by decide +kernel
theorem dX6_nextIsSign_22 : decode cX6_nextIsSign 22 = .ok (.iconst 1, 1) := by decide +kernel
theorem dX6_nextIsSign_23 : decode cX6_nextIsSign 23 = .ok (.goto 4, 3) := by decide +kernel
theorem dX6_nextIsSign_26 : decode cX6_nextIsSign 26 = .ok (.iconst 0, 1) := by decide +kernel
theorem dX6_nextIsSign_27 : decode cX6_nextIsSign 27 = .ok (.ireturn, 1) := by decide +kernel
theorem cd_57 (G : ZG) (d : Nat) (K : ZKt) (F : ZFt) (hT : zt5 G.2.2.2) : CS G RX6 cX6_nextIsSign 1 d K (some .boolean) [] (fun _ => []) 0 (bd_57 G.2.2.2 K F) := by
  unfold bd_57
  exact (CS.retZ (CX.pure (CE.bool (T := 22) (F := 26) (q := 27) (CC.or (CC.if_ne_T (T := 22) (F := 11) (CE.callV (by decide) (CA.ref (CE.aload_n rfl dX6_nextIsSign_0 zhd) (CA.int (CE.bipush kB_43 dX6_nextIsSign_1 zhd) (CA.int (CE.bipush kB_43 dX6_nextIsSign_3 zhd) CA.nil))) zi_56 cv_X6_62 (fun _ => rfl) dX6_nextIsSign_5 zhd) dX6_nextIsSign_8 rfl rfl) (CC.if_ne_F (T := 22) (F := 26) (CE.callV (by decide) (CA.ref (CE.aload_n rfl dX6_nextIsSign_11 zhd) (CA.int (CE.bipush kB_45 dX6_nextIsSign_12 zhd) (CA.int (CE.bipush kB_45 dX6_nextIsSign_14 zhd) CA.nil))) zi_56 cv_X6_62 (fun _ => rfl) dX6_nextIsSign_16 zhd) dX6_nextIsSign_19 rfl rfl)) dX6_nextIsSign_22 rfl dX6_nextIsSign_23 rfl zhd dX6_nextIsSign_26 zhd)) dX6_nextIsSign_27)
theorem dX6_readLetter_0 : decode cX6_readLetter 0 = .ok (.aload_n 0, 1) := by decide +kernel
theorem dX6_readLetter_1 : decode cX6_readLetter 1 = .ok (.iload_n 1, 1) := by decide +kernel
theorem dX6_readLetter_2 : decode cX6_readLetter 2 = .ok (.iload_n 1, 1) := by decide +kernel
theorem dX6_readLetter_3 : decode cX6_readLetter 3 = .ok (.invokevirtual 62, 3) := by decide +kernel
theorem dX6_readLetter_6 : decode cX6_readLetter 6 = .ok (.ifCond .ne 5, 3) := by decide +kernel
theorem dX6_readLetter_9 : decode cX6_readLetter 9 = .ok (.iconst 0, 1) := by decide +kernel
theorem dX6_readLetter_10 : decode cX6_readLetter 10 = .ok (.ireturn, 1) := by decide +kernel
theorem dX6_readLetter_11 : decode cX6_readLetter 11 = .ok (.aload_n 0, 1) := by decide +kernel
theorem dX6_readLetter_12 : decode cX6_readLetter 12 = .ok (.dup, 1) := by decide +kernel
theorem dX6_readLetter_13 : decode cX6_readLetter 13 = .ok (.getfield 25, 3) := by decide +kernel
theorem dX6_readLetter_16 : decode cX6_readLetter 16 = .ok (.iconst 1, 1) := by decide +kernel
theorem dX6_readLetter_17 : decode cX6_readLetter 17 = .ok (.iadd, 1) := by decide +kernel
theorem dX6_readLetter_18 : decode cX6_readLetter 18 = .ok (.putfield 25, 3) := by decide +kernel
theorem dX6_readLetter_21 : decode cX6_readLetter 21 = .ok (.iconst 1, 1) := by decide +kernel
theorem dX6_readLetter_22 : decode cX6_readLetter 22 = .ok (.ireturn, 1) := by decide +kernel
theorem cd_58 (G : ZG) (d : Nat) (K : ZKt) (F : ZFt) (hT : zt5 G.2.2.2) : CS G RX6 cX6_readLetter 2 d K (some .boolean) [] (fun _ => []) 0 (bd_58 G.2.2.2 K F) := by
  unfold bd_58
  exact (CS.seq 11 (CS.if1 (T := 9) (F := 11) (CD.pure (CC.not (CC.if_ne_T (T := 11) (F := 9) (CE.callV (by decide) (CA.ref (CE.aload_n rfl dX6_readLetter_0 zhd) (CA.int (CE.iload_n rfl dX6_readLetter_1 zhd) (CA.int (CE.iload_n rfl dX6_readLetter_2 zhd) CA.nil))) zi_56 cv_X6_62 (fun _ => rfl) dX6_readLetter_3 zhd) dX6_readLetter_6 rfl rfl))) (CS.retZ (CX.pure (CE.iconst kI_0 dX6_readLetter_9 zhd)) dX6_readLetter_10) zhd)
  (CS.seq 21 (CS.upd (CE.aload_n rfl dX6_readLetter_11 zhd) dX6_readLetter_12 dX6_readLetter_13 (CE.iconst kI_1 dX6_readLetter_16 zhd) (Or.inl ⟨rfl, dX6_readLetter_17⟩) fs_X6_25 fp_X6_25 dX6_readLetter_18 zhd)
  (CS.retZ (CX.pure (CE.iconst kI_1 dX6_readLetter_21 zhd)) dX6_readLetter_22)))
theorem dX6_readTerm_0 : decode cX6_readTerm 0 = .ok (.aload_n 0, 1) := by decide +kernel
theorem dX6_readTerm_1 : decode cX6_readTerm 1 = .ok (.bipush 45, 2) := by decide +kernel
theorem dX6_readTerm_3 : decode cX6_readTerm 3 = .ok (.bipush 45, 2) := by decide +kernel
theorem dX6_readTerm_5 : decode cX6_readTerm 5 = .ok (.invokevirtual 62, 3) := by decide +kernel
theorem dX6_readTerm_8 : decode cX6_readTerm 8 = .ok (.ifCond .eq 7, 3) := by decide +kernel
theorem dX6_readTerm_11 : decode cX6_readTerm 11 = .ok (.iconst (-1), 1) := by decide +kernel
theorem dX6_readTerm_12 : decode cX6_readTerm 12 = .ok (.goto 4, 3) := by decide +kernel
theorem dX6_readTerm_15 : decode cX6_readTerm 15 = .ok (.iconst 1, 1) := by decide +kernel
theorem dX6_readTerm_16 : decode cX6_readTerm 16 = .ok (.istore_n 1, 1) := by decide +kernel
theorem dX6_readTerm_17 : decode cX6_readTerm 17 = .ok (.aload_n 0, 1) := by decide +kernel
theorem dX6_readTerm_18 : decode cX6_readTerm 18 = .ok (.dup, 1) := by decide +kernel
theorem dX6_readTerm_19 : decode cX6_readTerm 19 = .ok (.getfield 25, 3) := by decide +kernel
theorem dX6_readTerm_22 : decode cX6_readTerm 22 = .ok (.iconst 1, 1) := by decide +kernel
theorem dX6_readTerm_23 : decode cX6_readTerm 23 = .ok (.iadd, 1) := by decide +kernel
theorem dX6_readTerm_24 : decode cX6_readTerm 24 = .ok (.putfield 25, 3) := by decide +kernel
theorem dX6_readTerm_27 : decode cX6_readTerm 27 = .ok (.aload_n 0, 1) := by decide +kernel
theorem dX6_readTerm_28 : decode cX6_readTerm 28 = .ok (.bipush 97, 2) := by decide +kernel
theorem dX6_readTerm_30 : decode cX6_readTerm 30 = .ok (.bipush 104, 2) := by decide +kernel
theorem dX6_readTerm_32 : decode cX6_readTerm 32 = .ok (.invokevirtual 62, 3) := by decide +kernel
theorem dX6_readTerm_35 : decode cX6_readTerm 35 = .ok (.ifCond .eq 12, 3) := by decide +kernel
theorem dX6_readTerm_38 : decode cX6_readTerm 38 = .ok (.aload_n 0, 1) := by decide +kernel
theorem dX6_readTerm_39 : decode cX6_readTerm 39 = .ok (.getfield 28, 3) := by decide +kernel
theorem dX6_readTerm_42 : decode cX6_readTerm 42 = .ok (.bipush 6, 2) := by decide +kernel
theorem dX6_readTerm_44 : decode cX6_readTerm 44 = .ok (.if_icmp .lt 5, 3) := by decide +kernel
theorem dX6_readTerm_47 : decode cX6_readTerm 47 = .ok (.iconst 0, 1) := by decide +kernel
theorem dX6_readTerm_48 : decode cX6_readTerm 48 = .ok (.ireturn, 1) := by decide +kernel
theorem dX6_readTerm_49 : decode cX6_readTerm 49 = .ok (.aload_n 0, 1) := by decide +kernel
theorem dX6_readTerm_50 : decode cX6_readTerm 50 = .ok (.getfield 15, 3) := by decide +kernel
theorem dX6_readTerm_53 : decode cX6_readTerm 53 = .ok (.aload_n 0, 1) := by decide +kernel
theorem dX6_readTerm_54 : decode cX6_readTerm 54 = .ok (.getfield 28, 3) := by decide +kernel
theorem dX6_readTerm_57 : decode cX6_readTerm 57 = .ok (.iload_n 1, 1) := by decide +kernel
theorem dX6_readTerm_58 : decode cX6_readTerm 58 = .ok (.iastore, 1) := by decide +kernel
theorem dX6_readTerm_59 : decode cX6_readTerm 59 = .ok (.aload_n 0, 1) := by decide +kernel
theorem dX6_readTerm_60 : decode cX6_readTerm 60 = .ok (.getfield 18, 3) := by decide +kernel
theorem dX6_readTerm_63 : decode cX6_readTerm 63 = .ok (.aload_n 0, 1) := by decide +kernel
theorem dX6_readTerm_64 : decode cX6_readTerm 64 = .ok (.getfield 28, 3) := by decide +kernel
theorem dX6_readTerm_67 : decode cX6_readTerm 67 = .ok (.aload_n 0, 1) := by decide +kernel
theorem dX6_readTerm_68 : decode cX6_readTerm 68 = .ok (.getfield 9, 3) := by decide +kernel
theorem dX6_readTerm_71 : decode cX6_readTerm 71 = .ok (.aload_n 0, 1) := by decide +kernel
theorem dX6_readTerm_72 : decode cX6_readTerm 72 = .ok (.getfield 25, 3) := by decide +kernel
theorem dX6_readTerm_75 : decode cX6_readTerm 75 = .ok (.iaload, 1) := by decide +kernel
theorem dX6_readTerm_76 : decode cX6_readTerm 76 = .ok (.bipush 97, 2) := by decide +kernel
theorem dX6_readTerm_78 : decode cX6_readTerm 78 = .ok (.isub, 1) := by decide +kernel
theorem dX6_readTerm_79 : decode cX6_readTerm 79 = .ok (.iastore, 1) := by decide +kernel
theorem dX6_readTerm_80 : decode cX6_readTerm 80 = .ok (.aload_n 0, 1) := by decide +kernel
theorem dX6_readTerm_81 : decode cX6_readTerm 81 = .ok (.dup, 1) := by decide +kernel
theorem dX6_readTerm_82 : decode cX6_readTerm 82 = .ok (.getfield 28, 3) := by decide +kernel
theorem dX6_readTerm_85 : decode cX6_readTerm 85 = .ok (.iconst 1, 1) := by decide +kernel
theorem dX6_readTerm_86 : decode cX6_readTerm 86 = .ok (.iadd, 1) := by decide +kernel
theorem dX6_readTerm_87 : decode cX6_readTerm 87 = .ok (.putfield 28, 3) := by decide +kernel
theorem dX6_readTerm_90 : decode cX6_readTerm 90 = .ok (.aload_n 0, 1) := by decide +kernel
theorem dX6_readTerm_91 : decode cX6_readTerm 91 = .ok (.dup, 1) := by decide +kernel
theorem dX6_readTerm_92 : decode cX6_readTerm 92 = .ok (.getfield 25, 3) := by decide +kernel
theorem dX6_readTerm_95 : decode cX6_readTerm 95 = .ok (.iconst 1, 1) := by decide +kernel
theorem dX6_readTerm_96 : decode cX6_readTerm 96 = .ok (.iadd, 1) := by decide +kernel
theorem dX6_readTerm_97 : decode cX6_readTerm 97 = .ok (.putfield 25, 3) := by decide +kernel
theorem dX6_readTerm_100 : decode cX6_readTerm 100 = .ok (.iconst 1, 1) := by decide +kernel
theorem dX6_readTerm_101 : decode cX6_readTerm 101 = .ok (.ireturn, 1) := by decide +kernel
theorem cd_59 (G : ZG) (d : Nat) (K : ZKt) (F : ZFt) (hT : zt5 G.2.2.2) : CS G RX6 cX6_readTerm 2 d K (some .boolean) [] (fun _ => []) 0 (bd_59 G.2.2.2 K F) := by
  unfold bd_59
  exact (CS.seq 17 (CS.decI_n (CX.pure (CE.tern (T := 11) (F := 15) (p1 := 12) (q := 16) (CC.if_ne_F (T := 11) (F := 15) (CE.callV (by decide) (CA.ref (CE.aload_n rfl dX6_readTerm_0 zhd) (CA.int (CE.bipush kB_45 dX6_readTerm_1 zhd) (CA.int (CE.bipush kB_45 dX6_readTerm_3 zhd) CA.nil))) zi_56 cv_X6_62 (fun _ => rfl) dX6_readTerm_5 zhd) dX6_readTerm_8 rfl rfl) (CE.iconst kI_m1 dX6_readTerm_11 zhd) zex2 dX6_readTerm_12 rfl zhd (CE.iconst kI_1 dX6_readTerm_15 zhd))) rfl (by decide) dX6_readTerm_16 zhd)
  (CS.seq 27 (CS.upd (CE.aload_n rfl dX6_readTerm_17 zhd) dX6_readTerm_18 dX6_readTerm_19 (CE.iconst kI_1 dX6_readTerm_22 zhd) (Or.inl ⟨rfl, dX6_readTerm_23⟩) fs_X6_25 fp_X6_25 dX6_readTerm_24 zhd)
  (CS.seq 49 (CS.if1 (T := 47) (F := 49) (CD.pure (CC.or (CC.not (CC.if_ne_F (T := 38) (F := 47) (CE.callV (by decide) (CA.ref (CE.aload_n rfl dX6_readTerm_27 zhd) (CA.int (CE.bipush kB_97 dX6_readTerm_28 zhd) (CA.int (CE.bipush kB_104 dX6_readTerm_30 zhd) CA.nil))) zi_56 cv_X6_62 (fun _ => rfl) dX6_readTerm_32 zhd) dX6_readTerm_35 rfl rfl)) (CC.icmp_ge_F (T := 47) (F := 49) (CE.getI (CE.aload_n rfl dX6_readTerm_38 zhd) fs_X6_28 dX6_readTerm_39 zhd) (CE.bipush kB_6 dX6_readTerm_42 zhd) dX6_readTerm_44 rfl rfl))) (CS.retZ (CX.pure (CE.iconst kI_0 dX6_readTerm_47 zhd)) dX6_readTerm_48) zhd)
  (CS.seq 59 (CS.st (CE.getR (CE.aload_n rfl dX6_readTerm_49 zhd) fs_X6_15 dX6_readTerm_50 zhd) (CX.pure (CE.getI (CE.aload_n rfl dX6_readTerm_53 zhd) fs_X6_28 dX6_readTerm_54 zhd)) (CX.pure (CE.iload_n rfl dX6_readTerm_57 zhd)) (Or.inl ⟨rfl, dX6_readTerm_58⟩) zhd)
  (CS.seq 80 (CS.st (CE.getR (CE.aload_n rfl dX6_readTerm_59 zhd) fs_X6_18 dX6_readTerm_60 zhd) (CX.pure (CE.getI (CE.aload_n rfl dX6_readTerm_63 zhd) fs_X6_28 dX6_readTerm_64 zhd)) (CX.pure (CE.isub (CE.aldI (CE.getR (CE.aload_n rfl dX6_readTerm_67 zhd) fs_X6_9 dX6_readTerm_68 zhd) (CE.getI (CE.aload_n rfl dX6_readTerm_71 zhd) fs_X6_25 dX6_readTerm_72 zhd) (Or.inl ⟨rfl, dX6_readTerm_75⟩) zhd) (CE.bipush kB_97 dX6_readTerm_76 zhd) dX6_readTerm_78 zhd)) (Or.inl ⟨rfl, dX6_readTerm_79⟩) zhd)
  (CS.seq 90 (CS.upd (CE.aload_n rfl dX6_readTerm_80 zhd) dX6_readTerm_81 dX6_readTerm_82 (CE.iconst kI_1 dX6_readTerm_85 zhd) (Or.inl ⟨rfl, dX6_readTerm_86⟩) fs_X6_28 fp_X6_28 dX6_readTerm_87 zhd)
  (CS.seq 100 (CS.upd (CE.aload_n rfl dX6_readTerm_90 zhd) dX6_readTerm_91 dX6_readTerm_92 (CE.iconst kI_1 dX6_readTerm_95 zhd) (Or.inl ⟨rfl, dX6_readTerm_96⟩) fs_X6_25 fp_X6_25 dX6_readTerm_97 zhd)
  (CS.retZ (CX.pure (CE.iconst kI_1 dX6_readTerm_100 zhd)) dX6_readTerm_101))))))))
theorem dX6_readNumber_0 : decode cX6_readNumber 0 = .ok (.aload_n 0, 1) := by decide +kernel
theorem dX6_readNumber_1 : decode cX6_readNumber 1 = .ok (.bipush 45, 2) := by decide +kernel
theorem dX6_readNumber_3 : decode cX6_readNumber 3 = .ok (.invokevirtual 42, 3) := by decide +kernel
theorem dX6_readNumber_6 : decode cX6_readNumber 6 = .ok (.istore_n 1, 1) := by decide +kernel
theorem dX6_readNumber_7 : decode cX6_readNumber 7 = .ok (.iconst 0, 1) := by decide +kernel
theorem dX6_readNumber_8 : decode cX6_readNumber 8 = .ok (.istore_n 2, 1) := by decide +kernel
theorem dX6_readNumber_9 : decode cX6_readNumber 9 = .ok (.iconst 0, 1) := by decide +kernel
theorem dX6_readNumber_10 : decode cX6_readNumber 10 = .ok (.istore_n 3, 1) := by decide +kernel
theorem dX6_readNumber_11 : decode cX6_readNumber 11 = .ok (.iload_n 2, 1) := by decide +kernel
theorem dX6_readNumber_12 : decode cX6_readNumber 12 = .ok (.iconst 4, 1) := by decide +kernel
theorem dX6_readNumber_13 : decode cX6_readNumber 13 = .ok (.if_icmp .ge 48, 3) := by decide +kernel
theorem dX6_readNumber_16 : decode cX6_readNumber 16 = .ok (.aload_n 0, 1) := by decide +kernel
theorem dX6_readNumber_17 : decode cX6_readNumber 17 = .ok (.bipush 48, 2) := by decide +kernel
theorem dX6_readNumber_19 : decode cX6_readNumber 19 = .ok (.bipush 57, 2) := by decide +kernel
theorem dX6_readNumber_21 : decode cX6_readNumber 21 = .ok (.invokevirtual 62, 3) := by decide +kernel
theorem dX6_readNumber_24 : decode cX6_readNumber 24 = .ok (.ifCond .eq 37, 3) := by decide +kernel
theorem dX6_readNumber_27 : decode cX6_readNumber 27 = .ok (.bipush 10, 2) := by decide +kernel
theorem dX6_readNumber_29 : decode cX6_readNumber 29 = .ok (.iload_n 3, 1) := by decide +kernel
theorem dX6_readNumber_30 : decode cX6_readNumber 30 = .ok (.imul, 1) := by decide +kernel
theorem dX6_readNumber_31 : decode cX6_readNumber 31 = .ok (.aload_n 0, 1) := by decide +kernel
theorem dX6_readNumber_32 : decode cX6_readNumber 32 = .ok (.getfield 9, 3) := by decide +kernel
theorem dX6_readNumber_35 : decode cX6_readNumber 35 = .ok (.aload_n 0, 1) := by decide +kernel
theorem dX6_readNumber_36 : decode cX6_readNumber 36 = .ok (.getfield 25, 3) := by decide +kernel
theorem dX6_readNumber_39 : decode cX6_readNumber 39 = .ok (.iaload, 1) := by decide +kernel
theorem dX6_readNumber_40 : decode cX6_readNumber 40 = .ok (.iadd, 1) := by decide +kernel
theorem dX6_readNumber_41 : decode cX6_readNumber 41 = .ok (.bipush 48, 2) := by decide +kernel
theorem dX6_readNumber_43 : decode cX6_readNumber 43 = .ok (.isub, 1) := by decide +kernel
theorem dX6_readNumber_44 : decode cX6_readNumber 44 = .ok (.istore_n 3, 1) := by decide +kernel
theorem dX6_readNumber_45 : decode cX6_readNumber 45 = .ok (.aload_n 0, 1) := by decide +kernel
theorem dX6_readNumber_46 : decode cX6_readNumber 46 = .ok (.dup, 1) := by decide +kernel
theorem dX6_readNumber_47 : decode cX6_readNumber 47 = .ok (.getfield 25, 3) := by decide +kernel
theorem dX6_readNumber_50 : decode cX6_readNumber 50 = .ok (.iconst 1, 1) := by decide +kernel
theorem dX6_readNumber_51 : decode cX6_readNumber 51 = .ok (.iadd, 1) := by decide +kernel
theorem dX6_readNumber_52 : decode cX6_readNumber 52 = .ok (.putfield 25, 3) := by decide +kernel
theorem dX6_readNumber_55 : decode cX6_readNumber 55 = .ok (.iinc 2 1, 3) := by decide +kernel
theorem dX6_readNumber_58 : decode cX6_readNumber 58 = .ok (.goto (-47), 3) := by decide +kernel
theorem dX6_readNumber_61 : decode cX6_readNumber 61 = .ok (.aload_n 0, 1) := by decide +kernel
theorem dX6_readNumber_62 : decode cX6_readNumber 62 = .ok (.iload_n 1, 1) := by decide +kernel
theorem dX6_readNumber_63 : decode cX6_readNumber 63 = .ok (.ifCond .eq 8, 3) := by decide +kernel
theorem dX6_readNumber_66 : decode cX6_readNumber 66 = .ok (.iload_n 3, 1) := by decide +kernel
theorem dX6_readNumber_67 : decode cX6_readNumber 67 = .ok (.ineg, 1) := by decide +kernel
theorem dX6_readNumber_68 : decode cX6_readNumber 68 = .ok (.goto 4, 3) := by decide +kernel
theorem dX6_readNumber_71 : decode cX6_readNumber 71 = .ok (.iload_n 3, 1) := by decide +kernel
theorem dX6_readNumber_72 : decode cX6_readNumber 72 = .ok (.putfield 49, 3) := by decide +kernel
theorem dX6_readNumber_75 : decode cX6_readNumber 75 = .ok (.iload_n 2, 1) := by decide +kernel
theorem dX6_readNumber_76 : decode cX6_readNumber 76 = .ok (.ifCond .le 7, 3) := by decide +kernel
theorem dX6_readNumber_79 : decode cX6_readNumber 79 = .ok (.iconst 1, 1) := by decide +kernel
theorem dX6_readNumber_80 : decode cX6_readNumber 80 = .ok (.goto 4, 3) := by decide +kernel
theorem dX6_readNumber_83 : decode cX6_readNumber 83 = .ok (.iconst 0, 1) := by decide +kernel
theorem dX6_readNumber_84 : decode cX6_readNumber 84 = .ok (.ireturn, 1) := by decide +kernel
theorem cd_60 (G : ZG) (d : Nat) (K : ZKt) (F : ZFt) (hT : zt5 G.2.2.2) : CS G RX6 cX6_readNumber 4 d K (some .boolean) [] (fun _ => []) 0 (bd_60 G.2.2.2 K F) := by
  unfold bd_60
  exact (CS.seq 7 (CS.decI_n (CX.callV (by decide) (CA.ref (CE.aload_n rfl dX6_readNumber_0 zhd) (CA.int (CE.bipush kB_45 dX6_readNumber_1 zhd) CA.nil)) zi_58 cv_X6_42 (fun _ => rfl) dX6_readNumber_3 zhd) rfl (by decide) dX6_readNumber_6 zhd)
  (CS.seq 9 (CS.decI_n (CX.pure (CE.iconst kI_0 dX6_readNumber_7 zhd)) rfl (by decide) dX6_readNumber_8 zhd)
  (CS.seq 11 (CS.decI_n (CX.pure (CE.iconst kI_0 dX6_readNumber_9 zhd)) rfl (by decide) dX6_readNumber_10 zhd)
  (CS.seq 61 (CS.whl (T := 27) (F := 61) (p1 := 58) (CD.pure (CC.and (CC.icmp_lt_F (T := 16) (F := 61) (CE.iload_n rfl dX6_readNumber_11 zhd) (CE.iconst kI_4 dX6_readNumber_12 zhd) dX6_readNumber_13 rfl rfl) (CC.if_ne_F (T := 27) (F := 61) (CE.callV (by decide) (CA.ref (CE.aload_n rfl dX6_readNumber_16 zhd) (CA.int (CE.bipush kB_48 dX6_readNumber_17 zhd) (CA.int (CE.bipush kB_57 dX6_readNumber_19 zhd) CA.nil))) zi_56 cv_X6_62 (fun _ => rfl) dX6_readNumber_21 zhd) dX6_readNumber_24 rfl rfl)))
  (CS.seq 55 (CS.seq 45 (CS.setI_n (CX.pure (CE.isub (CE.iadd (CE.imul (CE.bipush kB_10 dX6_readNumber_27 zhd) (CE.iload_n rfl dX6_readNumber_29 zhd) dX6_readNumber_30 zhd) (CE.aldI (CE.getR (CE.aload_n rfl dX6_readNumber_31 zhd) fs_X6_9 dX6_readNumber_32 zhd) (CE.getI (CE.aload_n rfl dX6_readNumber_35 zhd) fs_X6_25 dX6_readNumber_36 zhd) (Or.inl ⟨rfl, dX6_readNumber_39⟩) zhd) dX6_readNumber_40 zhd) (CE.bipush kB_48 dX6_readNumber_41 zhd) dX6_readNumber_43 zhd)) rfl (by decide) dX6_readNumber_44 zhd)
  (CS.upd (CE.aload_n rfl dX6_readNumber_45 zhd) dX6_readNumber_46 dX6_readNumber_47 (CE.iconst kI_1 dX6_readNumber_50 zhd) (Or.inl ⟨rfl, dX6_readNumber_51⟩) fs_X6_25 fp_X6_25 dX6_readNumber_52 zhd))
  (CS.inc kI_1 (by decide) dX6_readNumber_55 zhd)) dX6_readNumber_58 rfl zhd)
  (CS.seq 75 (CS.put (CE.aload_n rfl dX6_readNumber_61 zhd) (CX.pure (CE.tern (T := 66) (F := 71) (p1 := 68) (q := 72) (CC.if_ne_F (T := 66) (F := 71) (CE.iload_n rfl dX6_readNumber_62 zhd) dX6_readNumber_63 rfl rfl) (CE.ineg (CE.iload_n rfl dX6_readNumber_66 zhd) dX6_readNumber_67 zhd) zex2 dX6_readNumber_68 rfl zhd (CE.iload_n rfl dX6_readNumber_71 zhd))) fp_X6_49 rfl dX6_readNumber_72 zhd)
  (CS.retZ (CX.pure (CE.bool (T := 79) (F := 83) (q := 84) (CC.if_gt_F (T := 79) (F := 83) (CE.iload_n rfl dX6_readNumber_75 zhd) dX6_readNumber_76 rfl rfl) dX6_readNumber_79 rfl dX6_readNumber_80 rfl zhd dX6_readNumber_83 zhd)) dX6_readNumber_84))))))
theorem dX6_fold_0 : decode cX6_fold 0 = .ok (.lload_n 1, 1) := by decide +kernel
theorem dX6_fold_1 : decode cX6_fold 1 = .ok (.aload_n 0, 1) := by decide +kernel
theorem dX6_fold_2 : decode cX6_fold 2 = .ok (.getfield 9, 3) := by decide +kernel
theorem dX6_fold_5 : decode cX6_fold 5 = .ok (.aload_n 0, 1) := by decide +kernel
theorem dX6_fold_6 : decode cX6_fold 6 = .ok (.getfield 21, 3) := by decide +kernel
theorem dX6_fold_9 : decode cX6_fold 9 = .ok (.invokestatic 66, 3) := by decide +kernel
theorem dX6_fold_12 : decode cX6_fold 12 = .ok (.lreturn, 1) := by decide +kernel
theorem cd_61 (G : ZG) (d : Nat) (K : ZKt) (F : ZFt) (hT : zt5 G.2.2.2) : CS G RX6 cX6_fold 3 d K (some .long) [] (fun _ => []) 0 (bd_61 G.2.2.2 K F) := by
  unfold bd_61
  exact (CS.retL (CX.pure (CE.callS (by decide) (CA.long (CE.lload_n rfl dX6_fold_0 zhd) (CA.ref (CE.getR (CE.aload_n rfl dX6_fold_1 zhd) fs_X6_9 dX6_fold_2 zhd) (CA.int (CE.getI (CE.aload_n rfl dX6_fold_5 zhd) fs_X6_21 dX6_fold_6 zhd) CA.nil))) zi_133 cs_X6_66 (fun _ => rfl) dX6_fold_9 zhd)) dX6_fold_12)
