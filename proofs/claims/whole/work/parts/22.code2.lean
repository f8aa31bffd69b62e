/-! code of the bodies 62 to 91 -/
theorem dX7_begin_0 : decode cX7_begin 0 = .ok (.aload_n 0, 1) := by decide +kernel
theorem dX7_begin_1 : decode cX7_begin 1 = .ok (.aload_n 1, 1) := by decide +kernel
theorem dX7_begin_2 : decode cX7_begin 2 = .ok (.getfield 30, 3) := by decide +kernel
theorem dX7_begin_5 : decode cX7_begin 5 = .ok (.putfield 36, 3) := by decide +kernel
theorem dX7_begin_8 : decode cX7_begin 8 = .ok (.aload_n 0, 1) := by decide +kernel
theorem dX7_begin_9 : decode cX7_begin 9 = .ok (.iload_n 2, 1) := by decide +kernel
theorem dX7_begin_10 : decode cX7_begin 10 = .ok (.putfield 37, 3) := by decide +kernel
theorem dX7_begin_13 : decode cX7_begin 13 = .ok (.aload_n 0, 1) := by decide +kernel
theorem dX7_begin_14 : decode cX7_begin 14 = .ok (.getfield 18, 3) := by decide +kernel
theorem dX7_begin_17 : decode cX7_begin 17 = .ok (.iconst (-1), 1) := by decide +kernel
theorem dX7_begin_18 : decode cX7_begin 18 = .ok (.invokestatic 40, 3) := by decide +kernel
theorem dX7_begin_21 : decode cX7_begin 21 = .ok (.aload_n 0, 1) := by decide +kernel
theorem dX7_begin_22 : decode cX7_begin 22 = .ok (.getfield 15, 3) := by decide +kernel
theorem dX7_begin_25 : decode cX7_begin 25 = .ok (.iconst 0, 1) := by decide +kernel
theorem dX7_begin_26 : decode cX7_begin 26 = .ok (.invokestatic 40, 3) := by decide +kernel
theorem dX7_begin_29 : decode cX7_begin 29 = .ok (.aload_n 1, 1) := by decide +kernel
theorem dX7_begin_30 : decode cX7_begin 30 = .ok (.getfield 46, 3) := by decide +kernel
theorem dX7_begin_33 : decode cX7_begin 33 = .ok (.iconst 0, 1) := by decide +kernel
theorem dX7_begin_34 : decode cX7_begin 34 = .ok (.aload_n 0, 1) := by decide +kernel
theorem dX7_begin_35 : decode cX7_begin 35 = .ok (.getfield 9, 3) := by decide +kernel
theorem dX7_begin_38 : decode cX7_begin 38 = .ok (.iconst 0, 1) := by decide +kernel
theorem dX7_begin_39 : decode cX7_begin 39 = .ok (.bipush 24, 2) := by decide +kernel
theorem dX7_begin_41 : decode cX7_begin 41 = .ok (.invokestatic 49, 3) := by decide +kernel
theorem dX7_begin_44 : decode cX7_begin 44 = .ok (.iconst 0, 1) := by decide +kernel
theorem dX7_begin_45 : decode cX7_begin 45 = .ok (.istore 6, 2) := by decide +kernel
theorem dX7_begin_47 : decode cX7_begin 47 = .ok (.iload 6, 2) := by decide +kernel
theorem dX7_begin_49 : decode cX7_begin 49 = .ok (.aload_n 0, 1) := by decide +kernel
theorem dX7_begin_50 : decode cX7_begin 50 = .ok (.getfield 36, 3) := by decide +kernel
theorem dX7_begin_53 : decode cX7_begin 53 = .ok (.if_icmp .ge 130, 3) := by decide +kernel
theorem dX7_begin_56 : decode cX7_begin 56 = .ok (.aload_n 0, 1) := by decide +kernel
theorem dX7_begin_57 : decode cX7_begin 57 = .ok (.getfield 9, 3) := by decide +kernel
theorem dX7_begin_60 : decode cX7_begin 60 = .ok (.iload 6, 2) := by decide +kernel
theorem dX7_begin_62 : decode cX7_begin 62 = .ok (.iaload, 1) := by decide +kernel
theorem dX7_begin_63 : decode cX7_begin 63 = .ok (.iload_n 2, 1) := by decide +kernel
theorem dX7_begin_64 : decode cX7_begin 64 = .ok (.if_icmp .ne 113, 3) := by decide +kernel
theorem dX7_begin_67 : decode cX7_begin 67 = .ok (.aload_n 1, 1) := by decide +kernel
theorem dX7_begin_68 : decode cX7_begin 68 = .ok (.iload 6, 2) := by decide +kernel
theorem dX7_begin_70 : decode cX7_begin 70 = .ok (.invokevirtual 55, 3) := by decide +kernel
theorem dX7_begin_73 : decode cX7_begin 73 = .ok (.ifCond .ne 6, 3) := by decide +kernel
theorem dX7_begin_76 : decode cX7_begin 76 = .ok (.goto 101, 3) := by decide +kernel
theorem dX7_begin_79 : decode cX7_begin 79 = .ok (.iconst 0, 1) := by decide +kernel
theorem dX7_begin_80 : decode cX7_begin 80 = .ok (.istore 7, 2) := by decide +kernel
theorem dX7_begin_82 : decode cX7_begin 82 = .ok (.iload 7, 2) := by decide +kernel
theorem dX7_begin_84 : decode cX7_begin 84 = .ok (.aload_n 0, 1) := by decide +kernel
theorem dX7_begin_85 : decode cX7_begin 85 = .ok (.getfield 36, 3) := by decide +kernel
theorem dX7_begin_88 : decode cX7_begin 88 = .ok (.if_icmp .ge 89, 3) := by decide +kernel
theorem dX7_begin_91 : decode cX7_begin 91 = .ok (.aload_n 0, 1) := by decide +kernel
theorem dX7_begin_92 : decode cX7_begin 92 = .ok (.getfield 9, 3) := by decide +kernel
theorem dX7_begin_95 : decode cX7_begin 95 = .ok (.iload 7, 2) := by decide +kernel
theorem dX7_begin_97 : decode cX7_begin 97 = .ok (.iaload, 1) := by decide +kernel
theorem dX7_begin_98 : decode cX7_begin 98 = .ok (.iload_n 3, 1) := by decide +kernel
theorem dX7_begin_99 : decode cX7_begin 99 = .ok (.if_icmp .ne 72, 3) := by decide +kernel
theorem dX7_begin_102 : decode cX7_begin 102 = .ok (.aload_n 1, 1) := by decide +kernel
theorem dX7_begin_103 : decode cX7_begin 103 = .ok (.iload 7, 2) := by decide +kernel
theorem dX7_begin_105 : decode cX7_begin 105 = .ok (.invokevirtual 55, 3) := by decide +kernel
theorem dX7_begin_108 : decode cX7_begin 108 = .ok (.ifCond .ne 6, 3) := by decide +kernel
theorem dX7_begin_111 : decode cX7_begin 111 = .ok (.goto 60, 3) := by decide +kernel
theorem dX7_begin_114 : decode cX7_begin 114 = .ok (.aload_n 1, 1) := by decide +kernel
theorem dX7_begin_115 : decode cX7_begin 115 = .ok (.getfield 59, 3) := by decide +kernel
theorem dX7_begin_118 : decode cX7_begin 118 = .ok (.iload 6, 2) := by decide +kernel
theorem dX7_begin_120 : decode cX7_begin 120 = .ok (.iaload, 1) := by decide +kernel
theorem dX7_begin_121 : decode cX7_begin 121 = .ok (.aload_n 1, 1) := by decide +kernel
theorem dX7_begin_122 : decode cX7_begin 122 = .ok (.getfield 62, 3) := by decide +kernel
theorem dX7_begin_125 : decode cX7_begin 125 = .ok (.iload 7, 2) := by decide +kernel
theorem dX7_begin_127 : decode cX7_begin 127 = .ok (.iaload, 1) := by decide +kernel
theorem dX7_begin_128 : decode cX7_begin 128 = .ok (.isub, 1) := by decide +kernel
theorem dX7_begin_129 : decode cX7_begin 129 = .ok (.iload 4, 2) := by decide +kernel
theorem dX7_begin_131 : decode cX7_begin 131 = .ok (.if_icmp .ge 6, 3) := by decide +kernel
theorem dX7_begin_134 : decode cX7_begin 134 = .ok (.goto 37, 3) := by decide +kernel
theorem dX7_begin_137 : decode cX7_begin 137 = .ok (.aload_n 1, 1) := by decide +kernel
theorem dX7_begin_138 : decode cX7_begin 138 = .ok (.getfield 62, 3) := by decide +kernel
theorem dX7_begin_141 : decode cX7_begin 141 = .ok (.iload 6, 2) := by decide +kernel
theorem dX7_begin_143 : decode cX7_begin 143 = .ok (.iaload, 1) := by decide +kernel
theorem dX7_begin_144 : decode cX7_begin 144 = .ok (.aload_n 1, 1) := by decide +kernel
theorem dX7_begin_145 : decode cX7_begin 145 = .ok (.getfield 59, 3) := by decide +kernel
theorem dX7_begin_148 : decode cX7_begin 148 = .ok (.iload 7, 2) := by decide +kernel
theorem dX7_begin_150 : decode cX7_begin 150 = .ok (.iaload, 1) := by decide +kernel
theorem dX7_begin_151 : decode cX7_begin 151 = .ok (.isub, 1) := by decide +kernel
theorem dX7_begin_152 : decode cX7_begin 152 = .ok (.iload 5, 2) := by decide +kernel
theorem dX7_begin_154 : decode cX7_begin 154 = .ok (.if_icmp .gt 17, 3) := by decide +kernel
theorem dX7_begin_157 : decode cX7_begin 157 = .ok (.aload_n 0, 1) := by decide +kernel
theorem dX7_begin_158 : decode cX7_begin 158 = .ok (.getfield 15, 3) := by decide +kernel
theorem dX7_begin_161 : decode cX7_begin 161 = .ok (.iload 6, 2) := by decide +kernel
theorem dX7_begin_163 : decode cX7_begin 163 = .ok (.dup2, 1) := by decide +kernel
theorem dX7_begin_164 : decode cX7_begin 164 = .ok (.iaload, 1) := by decide +kernel
theorem dX7_begin_165 : decode cX7_begin 165 = .ok (.iconst 1, 1) := by decide +kernel
theorem dX7_begin_166 : decode cX7_begin 166 = .ok (.iload 7, 2) := by decide +kernel
theorem dX7_begin_168 : decode cX7_begin 168 = .ok (.ishl, 1) := by decide +kernel
theorem dX7_begin_169 : decode cX7_begin 169 = .ok (.ior, 1) := by decide +kernel
theorem dX7_begin_170 : decode cX7_begin 170 = .ok (.iastore, 1) := by decide +kernel
theorem dX7_begin_171 : decode cX7_begin 171 = .ok (.iinc 7 1, 3) := by decide +kernel
theorem dX7_begin_174 : decode cX7_begin 174 = .ok (.goto (-92), 3) := by decide +kernel
theorem dX7_begin_177 : decode cX7_begin 177 = .ok (.iinc 6 1, 3) := by decide +kernel
theorem dX7_begin_180 : decode cX7_begin 180 = .ok (.goto (-133), 3) := by decide +kernel
theorem dX7_begin_183 : decode cX7_begin 183 = .ok (.return_, 1) := by decide +kernel
theorem cd_62 (G : ZG) (d : Nat) (K : ZKt) (F : ZFt) (hT : zt5 G.2.2.2) : CS G RX7 cX7_begin 8 d K (none) [] (fun _ => []) 0 (bd_62 G.2.2.2 K F) := by
  unfold bd_62
  exact (CS.seq 183 (CS.seq 8 (CS.put (CE.aload_n rfl dX7_begin_0 zhd) (CX.pure (CE.getI (CE.aload_n rfl dX7_begin_1 zhd) fs_X7_30 dX7_begin_2 zhd)) fp_X7_36 rfl dX7_begin_5 zhd)
  (CS.seq 13 (CS.put (CE.aload_n rfl dX7_begin_8 zhd) (CX.pure (CE.iload_n rfl dX7_begin_9 zhd)) fp_X7_37 rfl dX7_begin_10 zhd)
  (CS.seq 21 (CS.callS (CA.ref (CE.getR (CE.aload_n rfl dX7_begin_13 zhd) fs_X7_18 dX7_begin_14 zhd) (CA.int (CE.iconst kI_m1 dX7_begin_17 zhd) CA.nil)) zi_219 cs_X7_40 (fun _ => rfl) dX7_begin_18 zhd)
  (CS.seq 29 (CS.callS (CA.ref (CE.getR (CE.aload_n rfl dX7_begin_21 zhd) fs_X7_15 dX7_begin_22 zhd) (CA.int (CE.iconst kI_0 dX7_begin_25 zhd) CA.nil)) zi_219 cs_X7_40 (fun _ => rfl) dX7_begin_26 zhd)
  (CS.seq 44 (CS.cpy (CE.getR (CE.aload_n rfl dX7_begin_29 zhd) fs_X7_46 dX7_begin_30 zhd) dX7_begin_33 (CE.getR (CE.aload_n rfl dX7_begin_34 zhd) fs_X7_9 dX7_begin_35 zhd) dX7_begin_38 (CE.bipush kB_24 dX7_begin_39 zhd) sy_X7_49 dX7_begin_41 zhd)
  (CS.scope (CS.seq 47 (CS.decI (CX.pure (CE.iconst kI_0 dX7_begin_44 zhd)) (by decide) dX7_begin_45 zhd)
  (CS.for (T := 56) (F := 183) (pu := 177) (p1 := 180) (kb := 1) (kc := 2) (CD.pure (CC.icmp_lt_F (T := 56) (F := 183) (CE.iload dX7_begin_47 zhd) (CE.getI (CE.aload_n rfl dX7_begin_49 zhd) fs_X7_36 dX7_begin_50 zhd) dX7_begin_53 rfl rfl))
  (CS.seq 79 (CS.ifT (F := 79) (CDT.or (CDT.of (CD.pure (CC.icmp_ne_T (T := 177) (F := 67) (CE.aldI (CE.getR (CE.aload_n rfl dX7_begin_56 zhd) fs_X7_9 dX7_begin_57 zhd) (CE.iload dX7_begin_60 zhd) (Or.inl ⟨rfl, dX7_begin_62⟩) zhd) (CE.iload_n rfl dX7_begin_63 zhd) dX7_begin_64 rfl rfl)) zh1) (CDT.of (CD.pure (CC.not (CC.if_ne_T (T := 79) (F := 76) (CE.callV (by decide) (CA.ref (CE.aload_n rfl dX7_begin_67 zhd) (CA.int (CE.iload dX7_begin_68 zhd) CA.nil)) zi_81 cv_X7_55 (fun _ => rfl) dX7_begin_70 zhd) dX7_begin_73 rfl rfl))) zhd)) (CS.brk (q := 177) dX7_begin_76 rfl zhd) (CS.brk0 zhd) zhd)
  (CS.scope (CS.seq 82 (CS.decI (CX.pure (CE.iconst kI_0 dX7_begin_79 zhd)) (by decide) dX7_begin_80 zhd)
  (CS.for (T := 91) (F := 177) (pu := 171) (p1 := 174) (kb := 3) (kc := 4) (CD.pure (CC.icmp_lt_F (T := 91) (F := 177) (CE.iload dX7_begin_82 zhd) (CE.getI (CE.aload_n rfl dX7_begin_84 zhd) fs_X7_36 dX7_begin_85 zhd) dX7_begin_88 rfl rfl))
  (CS.seq 114 (CS.ifT (F := 114) (CDT.or (CDT.of (CD.pure (CC.icmp_ne_T (T := 171) (F := 102) (CE.aldI (CE.getR (CE.aload_n rfl dX7_begin_91 zhd) fs_X7_9 dX7_begin_92 zhd) (CE.iload dX7_begin_95 zhd) (Or.inl ⟨rfl, dX7_begin_97⟩) zhd) (CE.iload_n rfl dX7_begin_98 zhd) dX7_begin_99 rfl rfl)) zh1) (CDT.of (CD.pure (CC.not (CC.if_ne_T (T := 114) (F := 111) (CE.callV (by decide) (CA.ref (CE.aload_n rfl dX7_begin_102 zhd) (CA.int (CE.iload dX7_begin_103 zhd) CA.nil)) zi_81 cv_X7_55 (fun _ => rfl) dX7_begin_105 zhd) dX7_begin_108 rfl rfl))) zhd)) (CS.brk (q := 171) dX7_begin_111 rfl zhd) (CS.brk0 zhd) zhd)
  (CS.seq 137 (CS.ifT (F := 137) (CDT.of (CD.pure (CC.icmp_lt_F (T := 134) (F := 137) (CE.isub (CE.aldI (CE.getR (CE.aload_n rfl dX7_begin_114 zhd) fs_X7_59 dX7_begin_115 zhd) (CE.iload dX7_begin_118 zhd) (Or.inl ⟨rfl, dX7_begin_120⟩) zhd) (CE.aldI (CE.getR (CE.aload_n rfl dX7_begin_121 zhd) fs_X7_62 dX7_begin_122 zhd) (CE.iload dX7_begin_125 zhd) (Or.inl ⟨rfl, dX7_begin_127⟩) zhd) dX7_begin_128 zhd) (CE.iload dX7_begin_129 zhd) dX7_begin_131 rfl rfl)) zhd) (CS.brk (q := 171) dX7_begin_134 rfl zhd) (CS.brk0 zhd) zhd)
  (CS.if1 (T := 157) (F := 171) (CD.pure (CC.icmp_le_F (T := 157) (F := 171) (CE.isub (CE.aldI (CE.getR (CE.aload_n rfl dX7_begin_137 zhd) fs_X7_62 dX7_begin_138 zhd) (CE.iload dX7_begin_141 zhd) (Or.inl ⟨rfl, dX7_begin_143⟩) zhd) (CE.aldI (CE.getR (CE.aload_n rfl dX7_begin_144 zhd) fs_X7_59 dX7_begin_145 zhd) (CE.iload dX7_begin_148 zhd) (Or.inl ⟨rfl, dX7_begin_150⟩) zhd) dX7_begin_151 zhd) (CE.iload dX7_begin_152 zhd) dX7_begin_154 rfl rfl)) (CS.stU (CE.getR (CE.aload_n rfl dX7_begin_157 zhd) fs_X7_15 dX7_begin_158 zhd) (CE.iload dX7_begin_161 zhd) dX7_begin_163 dX7_begin_164 (CE.ishl (CE.iconst kI_1 dX7_begin_165 zhd) (CE.iload dX7_begin_166 zhd) dX7_begin_168 zhd) (Or.inr (Or.inr ⟨rfl, dX7_begin_169⟩)) dX7_begin_170 zhd) zhd))) (CS.inc kI_1 (by decide) dX7_begin_171 zhd) dX7_begin_174 rfl zhd)))) (CS.inc kI_1 (by decide) dX7_begin_177 zhd) dX7_begin_180 rfl zhd))))))))
  (CS.retV dX7_begin_183))
theorem dX7_pairMost_0 : decode cX7_pairMost 0 = .ok (.iconst 0, 1) := by decide +kernel
theorem dX7_pairMost_1 : decode cX7_pairMost 1 = .ok (.istore_n 1, 1) := by decide +kernel
theorem dX7_pairMost_2 : decode cX7_pairMost 2 = .ok (.iload_n 1, 1) := by decide +kernel
theorem dX7_pairMost_3 : decode cX7_pairMost 3 = .ok (.bipush 24, 2) := by decide +kernel
theorem dX7_pairMost_5 : decode cX7_pairMost 5 = .ok (.if_icmp .ge 20, 3) := by decide +kernel
theorem dX7_pairMost_8 : decode cX7_pairMost 8 = .ok (.aload_n 0, 1) := by decide +kernel
theorem dX7_pairMost_9 : decode cX7_pairMost 9 = .ok (.iconst 0, 1) := by decide +kernel
theorem dX7_pairMost_10 : decode cX7_pairMost 10 = .ok (.invokevirtual 65, 3) := by decide +kernel
theorem dX7_pairMost_13 : decode cX7_pairMost 13 = .ok (.ifCond .ne 6, 3) := by decide +kernel
theorem dX7_pairMost_16 : decode cX7_pairMost 16 = .ok (.goto 9, 3) := by decide +kernel
theorem dX7_pairMost_19 : decode cX7_pairMost 19 = .ok (.iinc 1 1, 3) := by decide +kernel
theorem dX7_pairMost_22 : decode cX7_pairMost 22 = .ok (.goto (-20), 3) := by decide +kernel
theorem dX7_pairMost_25 : decode cX7_pairMost 25 = .ok (.iconst 0, 1) := by decide +kernel
theorem dX7_pairMost_26 : decode cX7_pairMost 26 = .ok (.istore_n 1, 1) := by decide +kernel
theorem dX7_pairMost_27 : decode cX7_pairMost 27 = .ok (.iconst 0, 1) := by decide +kernel
theorem dX7_pairMost_28 : decode cX7_pairMost 28 = .ok (.istore_n 2, 1) := by decide +kernel
theorem dX7_pairMost_29 : decode cX7_pairMost 29 = .ok (.iload_n 2, 1) := by decide +kernel
theorem dX7_pairMost_30 : decode cX7_pairMost 30 = .ok (.aload_n 0, 1) := by decide +kernel
theorem dX7_pairMost_31 : decode cX7_pairMost 31 = .ok (.getfield 36, 3) := by decide +kernel
theorem dX7_pairMost_34 : decode cX7_pairMost 34 = .ok (.if_icmp .ge 31, 3) := by decide +kernel
theorem dX7_pairMost_37 : decode cX7_pairMost 37 = .ok (.aload_n 0, 1) := by decide +kernel
theorem dX7_pairMost_38 : decode cX7_pairMost 38 = .ok (.getfield 9, 3) := by decide +kernel
theorem dX7_pairMost_41 : decode cX7_pairMost 41 = .ok (.iload_n 2, 1) := by decide +kernel
theorem dX7_pairMost_42 : decode cX7_pairMost 42 = .ok (.iaload, 1) := by decide +kernel
theorem dX7_pairMost_43 : decode cX7_pairMost 43 = .ok (.aload_n 0, 1) := by decide +kernel
theorem dX7_pairMost_44 : decode cX7_pairMost 44 = .ok (.getfield 37, 3) := by decide +kernel
theorem dX7_pairMost_47 : decode cX7_pairMost 47 = .ok (.if_icmp .ne 12, 3) := by decide +kernel
theorem dX7_pairMost_50 : decode cX7_pairMost 50 = .ok (.iload_n 1, 1) := by decide +kernel
theorem dX7_pairMost_51 : decode cX7_pairMost 51 = .ok (.aload_n 0, 1) := by decide +kernel
theorem dX7_pairMost_52 : decode cX7_pairMost 52 = .ok (.iload_n 2, 1) := by decide +kernel
theorem dX7_pairMost_53 : decode cX7_pairMost 53 = .ok (.iload_n 1, 1) := by decide +kernel
theorem dX7_pairMost_54 : decode cX7_pairMost 54 = .ok (.invokevirtual 68, 3) := by decide +kernel
theorem dX7_pairMost_57 : decode cX7_pairMost 57 = .ok (.ior, 1) := by decide +kernel
theorem dX7_pairMost_58 : decode cX7_pairMost 58 = .ok (.istore_n 1, 1) := by decide +kernel
theorem dX7_pairMost_59 : decode cX7_pairMost 59 = .ok (.iinc 2 1, 3) := by decide +kernel
theorem dX7_pairMost_62 : decode cX7_pairMost 62 = .ok (.goto (-33), 3) := by decide +kernel
theorem dX7_pairMost_65 : decode cX7_pairMost 65 = .ok (.return_, 1) := by decide +kernel
theorem cd_63 (G : ZG) (d : Nat) (K : ZKt) (F : ZFt) (hT : zt5 G.2.2.2) : CS G RX7 cX7_pairMost 3 d K (none) [] (fun _ => []) 0 (bd_63 G.2.2.2 K F) := by
  unfold bd_63
  exact (CS.seq 65 (CS.seq 25 (CS.scope (CS.seq 2 (CS.decI_n (CX.pure (CE.iconst kI_0 dX7_pairMost_0 zhd)) rfl (by decide) dX7_pairMost_1 zhd)
  (CS.for (T := 8) (F := 25) (pu := 19) (p1 := 22) (kb := 1) (kc := 2) (CD.pure (CC.icmp_lt_F (T := 8) (F := 25) (CE.iload_n rfl dX7_pairMost_2 zhd) (CE.bipush kB_24 dX7_pairMost_3 zhd) dX7_pairMost_5 rfl rfl))
  (CS.ifT (F := 19) (CDT.of (CD.not (CD.nz_T (T := 19) (F := 16) (CX.callV (by decide) (CA.ref (CE.aload_n rfl dX7_pairMost_8 zhd) (CA.int (CE.iconst kI_0 dX7_pairMost_9 zhd) CA.nil)) zi_66 cv_X7_65 (fun _ => rfl) dX7_pairMost_10 zhd) dX7_pairMost_13 rfl rfl)) zhd) (CS.brk (q := 25) dX7_pairMost_16 rfl zhd) (CS.brk0 zhd) zhd) (CS.inc kI_1 (by decide) dX7_pairMost_19 zhd) dX7_pairMost_22 rfl zhd)))
  (CS.seq 27 (CS.decI_n (CX.pure (CE.iconst kI_0 dX7_pairMost_25 zhd)) rfl (by decide) dX7_pairMost_26 zhd)
  (CS.scope (CS.seq 29 (CS.decI_n (CX.pure (CE.iconst kI_0 dX7_pairMost_27 zhd)) rfl (by decide) dX7_pairMost_28 zhd)
  (CS.whl (T := 37) (F := 65) (p1 := 62) (CD.pure (CC.icmp_lt_F (T := 37) (F := 65) (CE.iload_n rfl dX7_pairMost_29 zhd) (CE.getI (CE.aload_n rfl dX7_pairMost_30 zhd) fs_X7_36 dX7_pairMost_31 zhd) dX7_pairMost_34 rfl rfl))
  (CS.seq 59 (CS.if1 (T := 50) (F := 59) (CD.pure (CC.icmp_eq_F (T := 50) (F := 59) (CE.aldI (CE.getR (CE.aload_n rfl dX7_pairMost_37 zhd) fs_X7_9 dX7_pairMost_38 zhd) (CE.iload_n rfl dX7_pairMost_41 zhd) (Or.inl ⟨rfl, dX7_pairMost_42⟩) zhd) (CE.getI (CE.aload_n rfl dX7_pairMost_43 zhd) fs_X7_37 dX7_pairMost_44 zhd) dX7_pairMost_47 rfl rfl)) (CS.setI_n (CX.pure (CE.ior (CE.iload_n rfl dX7_pairMost_50 zhd) (CE.callV (by decide) (CA.ref (CE.aload_n rfl dX7_pairMost_51 zhd) (CA.int (CE.iload_n rfl dX7_pairMost_52 zhd) (CA.int (CE.iload_n rfl dX7_pairMost_53 zhd) CA.nil))) zi_64 cv_X7_68 (fun _ => rfl) dX7_pairMost_54 zhd) dX7_pairMost_57 zhd)) rfl (by decide) dX7_pairMost_58 zhd) zhd)
  (CS.inc kI_1 (by decide) dX7_pairMost_59 zhd)) dX7_pairMost_62 rfl zhd)))))
  (CS.retV dX7_pairMost_65))
theorem dX7_settle_0 : decode cX7_settle 0 = .ok (.iconst 0, 1) := by decide +kernel
theorem dX7_settle_1 : decode cX7_settle 1 = .ok (.istore_n 3, 1) := by decide +kernel
theorem dX7_settle_2 : decode cX7_settle 2 = .ok (.iload_n 3, 1) := by decide +kernel
theorem dX7_settle_3 : decode cX7_settle 3 = .ok (.aload_n 0, 1) := by decide +kernel
theorem dX7_settle_4 : decode cX7_settle 4 = .ok (.getfield 36, 3) := by decide +kernel
theorem dX7_settle_7 : decode cX7_settle 7 = .ok (.if_icmp .ge 61, 3) := by decide +kernel
theorem dX7_settle_10 : decode cX7_settle 10 = .ok (.aload_n 0, 1) := by decide +kernel
theorem dX7_settle_11 : decode cX7_settle 11 = .ok (.getfield 15, 3) := by decide +kernel
theorem dX7_settle_14 : decode cX7_settle 14 = .ok (.iload_n 1, 1) := by decide +kernel
theorem dX7_settle_15 : decode cX7_settle 15 = .ok (.iaload, 1) := by decide +kernel
theorem dX7_settle_16 : decode cX7_settle 16 = .ok (.iload_n 3, 1) := by decide +kernel
theorem dX7_settle_17 : decode cX7_settle 17 = .ok (.ishr, 1) := by decide +kernel
theorem dX7_settle_18 : decode cX7_settle 18 = .ok (.iconst 1, 1) := by decide +kernel
theorem dX7_settle_19 : decode cX7_settle 19 = .ok (.iand, 1) := by decide +kernel
theorem dX7_settle_20 : decode cX7_settle 20 = .ok (.ifCond .eq 42, 3) := by decide +kernel
theorem dX7_settle_23 : decode cX7_settle 23 = .ok (.iload_n 2, 1) := by decide +kernel
theorem dX7_settle_24 : decode cX7_settle 24 = .ok (.iload_n 3, 1) := by decide +kernel
theorem dX7_settle_25 : decode cX7_settle 25 = .ok (.ishr, 1) := by decide +kernel
theorem dX7_settle_26 : decode cX7_settle 26 = .ok (.iconst 1, 1) := by decide +kernel
theorem dX7_settle_27 : decode cX7_settle 27 = .ok (.iand, 1) := by decide +kernel
theorem dX7_settle_28 : decode cX7_settle 28 = .ok (.ifCond .eq 6, 3) := by decide +kernel
theorem dX7_settle_31 : decode cX7_settle 31 = .ok (.goto 31, 3) := by decide +kernel
theorem dX7_settle_34 : decode cX7_settle 34 = .ok (.aload_n 0, 1) := by decide +kernel
theorem dX7_settle_35 : decode cX7_settle 35 = .ok (.getfield 18, 3) := by decide +kernel
theorem dX7_settle_38 : decode cX7_settle 38 = .ok (.iload_n 1, 1) := by decide +kernel
theorem dX7_settle_39 : decode cX7_settle 39 = .ok (.iaload, 1) := by decide +kernel
theorem dX7_settle_40 : decode cX7_settle 40 = .ok (.iload_n 3, 1) := by decide +kernel
theorem dX7_settle_41 : decode cX7_settle 41 = .ok (.if_icmp .eq 13, 3) := by decide +kernel
theorem dX7_settle_44 : decode cX7_settle 44 = .ok (.aload_n 0, 1) := by decide +kernel
theorem dX7_settle_45 : decode cX7_settle 45 = .ok (.iload_n 1, 1) := by decide +kernel
theorem dX7_settle_46 : decode cX7_settle 46 = .ok (.iload_n 3, 1) := by decide +kernel
theorem dX7_settle_47 : decode cX7_settle 47 = .ok (.iload_n 2, 1) := by decide +kernel
theorem dX7_settle_48 : decode cX7_settle 48 = .ok (.invokevirtual 72, 3) := by decide +kernel
theorem dX7_settle_51 : decode cX7_settle 51 = .ok (.ifCond .eq 11, 3) := by decide +kernel
theorem dX7_settle_54 : decode cX7_settle 54 = .ok (.iconst 1, 1) := by decide +kernel
theorem dX7_settle_55 : decode cX7_settle 55 = .ok (.iload_n 1, 1) := by decide +kernel
theorem dX7_settle_56 : decode cX7_settle 56 = .ok (.ishl, 1) := by decide +kernel
theorem dX7_settle_57 : decode cX7_settle 57 = .ok (.iconst 1, 1) := by decide +kernel
theorem dX7_settle_58 : decode cX7_settle 58 = .ok (.iload_n 3, 1) := by decide +kernel
theorem dX7_settle_59 : decode cX7_settle 59 = .ok (.ishl, 1) := by decide +kernel
theorem dX7_settle_60 : decode cX7_settle 60 = .ok (.ior, 1) := by decide +kernel
theorem dX7_settle_61 : decode cX7_settle 61 = .ok (.ireturn, 1) := by decide +kernel
theorem dX7_settle_62 : decode cX7_settle 62 = .ok (.iinc 3 1, 3) := by decide +kernel
theorem dX7_settle_65 : decode cX7_settle 65 = .ok (.goto (-63), 3) := by decide +kernel
theorem dX7_settle_68 : decode cX7_settle 68 = .ok (.iconst 1, 1) := by decide +kernel
theorem dX7_settle_69 : decode cX7_settle 69 = .ok (.iload_n 1, 1) := by decide +kernel
theorem dX7_settle_70 : decode cX7_settle 70 = .ok (.ishl, 1) := by decide +kernel
theorem dX7_settle_71 : decode cX7_settle 71 = .ok (.ireturn, 1) := by decide +kernel
theorem cd_64 (G : ZG) (d : Nat) (K : ZKt) (F : ZFt) (hT : zt5 G.2.2.2) : CS G RX7 cX7_settle 4 d K (some .int) [] (fun _ => []) 0 (bd_64 G.2.2.2 K F) := by
  unfold bd_64
  exact (CS.seq 68 (CS.scope (CS.seq 2 (CS.decI_n (CX.pure (CE.iconst kI_0 dX7_settle_0 zhd)) rfl (by decide) dX7_settle_1 zhd)
  (CS.for (T := 10) (F := 68) (pu := 62) (p1 := 65) (kb := 1) (kc := 2) (CD.pure (CC.icmp_lt_F (T := 10) (F := 68) (CE.iload_n rfl dX7_settle_2 zhd) (CE.getI (CE.aload_n rfl dX7_settle_3 zhd) fs_X7_36 dX7_settle_4 zhd) dX7_settle_7 rfl rfl))
  (CS.seq 34 (CS.ifT (F := 34) (CDT.or (CDT.of (CD.pure (CC.if_eq_T (T := 62) (F := 23) (CE.iand (CE.ishr (CE.aldI (CE.getR (CE.aload_n rfl dX7_settle_10 zhd) fs_X7_15 dX7_settle_11 zhd) (CE.iload_n rfl dX7_settle_14 zhd) (Or.inl ⟨rfl, dX7_settle_15⟩) zhd) (CE.iload_n rfl dX7_settle_16 zhd) dX7_settle_17 zhd) (CE.iconst kI_1 dX7_settle_18 zhd) dX7_settle_19 zhd) dX7_settle_20 rfl rfl)) zh1) (CDT.of (CD.pure (CC.if_ne_F (T := 31) (F := 34) (CE.iand (CE.ishr (CE.iload_n rfl dX7_settle_23 zhd) (CE.iload_n rfl dX7_settle_24 zhd) dX7_settle_25 zhd) (CE.iconst kI_1 dX7_settle_26 zhd) dX7_settle_27 zhd) dX7_settle_28 rfl rfl)) zhd)) (CS.brk (q := 62) dX7_settle_31 rfl zhd) (CS.brk0 zhd) zhd)
  (CS.if1 (T := 54) (F := 62) (CD.or (CD.pure (CC.icmp_eq_T (T := 54) (F := 44) (CE.aldI (CE.getR (CE.aload_n rfl dX7_settle_34 zhd) fs_X7_18 dX7_settle_35 zhd) (CE.iload_n rfl dX7_settle_38 zhd) (Or.inl ⟨rfl, dX7_settle_39⟩) zhd) (CE.iload_n rfl dX7_settle_40 zhd) dX7_settle_41 rfl rfl)) (CD.nz_F (T := 54) (F := 62) (CX.callV (by decide) (CA.ref (CE.aload_n rfl dX7_settle_44 zhd) (CA.int (CE.iload_n rfl dX7_settle_45 zhd) (CA.int (CE.iload_n rfl dX7_settle_46 zhd) (CA.int (CE.iload_n rfl dX7_settle_47 zhd) CA.nil)))) zi_65 cv_X7_72 (fun _ => rfl) dX7_settle_48 zhd) dX7_settle_51 rfl rfl)) (CS.retI (CX.pure (CE.ior (CE.ishl (CE.iconst kI_1 dX7_settle_54 zhd) (CE.iload_n rfl dX7_settle_55 zhd) dX7_settle_56 zhd) (CE.ishl (CE.iconst kI_1 dX7_settle_57 zhd) (CE.iload_n rfl dX7_settle_58 zhd) dX7_settle_59 zhd) dX7_settle_60 zhd)) dX7_settle_61) zhd)) (CS.inc kI_1 (by decide) dX7_settle_62 zhd) dX7_settle_65 rfl zhd)))
  (CS.retI (CX.pure (CE.ishl (CE.iconst kI_1 dX7_settle_68 zhd) (CE.iload_n rfl dX7_settle_69 zhd) dX7_settle_70 zhd)) dX7_settle_71))
theorem dX7_force_0 : decode cX7_force 0 = .ok (.aload_n 0, 1) := by decide +kernel
theorem dX7_force_1 : decode cX7_force 1 = .ok (.getfield 18, 3) := by decide +kernel
theorem dX7_force_4 : decode cX7_force 4 = .ok (.iload_n 1, 1) := by decide +kernel
theorem dX7_force_5 : decode cX7_force 5 = .ok (.iaload, 1) := by decide +kernel
theorem dX7_force_6 : decode cX7_force 6 = .ok (.istore 4, 2) := by decide +kernel
theorem dX7_force_8 : decode cX7_force 8 = .ok (.aload_n 0, 1) := by decide +kernel
theorem dX7_force_9 : decode cX7_force 9 = .ok (.getfield 18, 3) := by decide +kernel
theorem dX7_force_12 : decode cX7_force 12 = .ok (.iload_n 2, 1) := by decide +kernel
theorem dX7_force_13 : decode cX7_force 13 = .ok (.iaload, 1) := by decide +kernel
theorem dX7_force_14 : decode cX7_force 14 = .ok (.istore 5, 2) := by decide +kernel
theorem dX7_force_16 : decode cX7_force 16 = .ok (.aload_n 0, 1) := by decide +kernel
theorem dX7_force_17 : decode cX7_force 17 = .ok (.getfield 18, 3) := by decide +kernel
theorem dX7_force_20 : decode cX7_force 20 = .ok (.iconst 0, 1) := by decide +kernel
theorem dX7_force_21 : decode cX7_force 21 = .ok (.aload_n 0, 1) := by decide +kernel
theorem dX7_force_22 : decode cX7_force 22 = .ok (.getfield 21, 3) := by decide +kernel
theorem dX7_force_25 : decode cX7_force 25 = .ok (.iconst 0, 1) := by decide +kernel
theorem dX7_force_26 : decode cX7_force 26 = .ok (.bipush 24, 2) := by decide +kernel
theorem dX7_force_28 : decode cX7_force 28 = .ok (.invokestatic 49, 3) := by decide +kernel
theorem dX7_force_31 : decode cX7_force 31 = .ok (.iload 4, 2) := by decide +kernel
theorem dX7_force_33 : decode cX7_force 33 = .ok (.bipush 24, 2) := by decide +kernel
theorem dX7_force_35 : decode cX7_force 35 = .ok (.invokestatic 76, 3) := by decide +kernel
theorem dX7_force_38 : decode cX7_force 38 = .ok (.ifCond .eq 11, 3) := by decide +kernel
theorem dX7_force_41 : decode cX7_force 41 = .ok (.aload_n 0, 1) := by decide +kernel
theorem dX7_force_42 : decode cX7_force 42 = .ok (.getfield 18, 3) := by decide +kernel
theorem dX7_force_45 : decode cX7_force 45 = .ok (.iload 4, 2) := by decide +kernel
theorem dX7_force_47 : decode cX7_force 47 = .ok (.iconst (-1), 1) := by decide +kernel
theorem dX7_force_48 : decode cX7_force 48 = .ok (.iastore, 1) := by decide +kernel
theorem dX7_force_49 : decode cX7_force 49 = .ok (.iload 5, 2) := by decide +kernel
theorem dX7_force_51 : decode cX7_force 51 = .ok (.bipush 24, 2) := by decide +kernel
theorem dX7_force_53 : decode cX7_force 53 = .ok (.invokestatic 76, 3) := by decide +kernel
theorem dX7_force_56 : decode cX7_force 56 = .ok (.ifCond .eq 11, 3) := by decide +kernel
theorem dX7_force_59 : decode cX7_force 59 = .ok (.aload_n 0, 1) := by decide +kernel
theorem dX7_force_60 : decode cX7_force 60 = .ok (.getfield 18, 3) := by decide +kernel
theorem dX7_force_63 : decode cX7_force 63 = .ok (.iload 5, 2) := by decide +kernel
theorem dX7_force_65 : decode cX7_force 65 = .ok (.iconst (-1), 1) := by decide +kernel
theorem dX7_force_66 : decode cX7_force 66 = .ok (.iastore, 1) := by decide +kernel
theorem dX7_force_67 : decode cX7_force 67 = .ok (.aload_n 0, 1) := by decide +kernel
theorem dX7_force_68 : decode cX7_force 68 = .ok (.getfield 18, 3) := by decide +kernel
theorem dX7_force_71 : decode cX7_force 71 = .ok (.iload_n 1, 1) := by decide +kernel
theorem dX7_force_72 : decode cX7_force 72 = .ok (.iload_n 2, 1) := by decide +kernel
theorem dX7_force_73 : decode cX7_force 73 = .ok (.iastore, 1) := by decide +kernel
theorem dX7_force_74 : decode cX7_force 74 = .ok (.aload_n 0, 1) := by decide +kernel
theorem dX7_force_75 : decode cX7_force 75 = .ok (.getfield 18, 3) := by decide +kernel
theorem dX7_force_78 : decode cX7_force 78 = .ok (.iload_n 2, 1) := by decide +kernel
theorem dX7_force_79 : decode cX7_force 79 = .ok (.iload_n 1, 1) := by decide +kernel
theorem dX7_force_80 : decode cX7_force 80 = .ok (.iastore, 1) := by decide +kernel
theorem dX7_force_81 : decode cX7_force 81 = .ok (.iload 4, 2) := by decide +kernel
theorem dX7_force_83 : decode cX7_force 83 = .ok (.iconst (-1), 1) := by decide +kernel
theorem dX7_force_84 : decode cX7_force 84 = .ok (.if_icmp .eq 9, 3) := by decide +kernel
theorem dX7_force_87 : decode cX7_force 87 = .ok (.iload 5, 2) := by decide +kernel
theorem dX7_force_89 : decode cX7_force 89 = .ok (.iconst (-1), 1) := by decide +kernel
theorem dX7_force_90 : decode cX7_force 90 = .ok (.if_icmp .ne 5, 3) := by decide +kernel
theorem dX7_force_93 : decode cX7_force 93 = .ok (.iconst 1, 1) := by decide +kernel
theorem dX7_force_94 : decode cX7_force 94 = .ok (.ireturn, 1) := by decide +kernel
theorem dX7_force_95 : decode cX7_force 95 = .ok (.aload_n 0, 1) := by decide +kernel
theorem dX7_force_96 : decode cX7_force 96 = .ok (.iload_n 3, 1) := by decide +kernel
theorem dX7_force_97 : decode cX7_force 97 = .ok (.iconst 1, 1) := by decide +kernel
theorem dX7_force_98 : decode cX7_force 98 = .ok (.iload_n 1, 1) := by decide +kernel
theorem dX7_force_99 : decode cX7_force 99 = .ok (.ishl, 1) := by decide +kernel
theorem dX7_force_100 : decode cX7_force 100 = .ok (.ior, 1) := by decide +kernel
theorem dX7_force_101 : decode cX7_force 101 = .ok (.iconst 1, 1) := by decide +kernel
theorem dX7_force_102 : decode cX7_force 102 = .ok (.iload_n 2, 1) := by decide +kernel
theorem dX7_force_103 : decode cX7_force 103 = .ok (.ishl, 1) := by decide +kernel
theorem dX7_force_104 : decode cX7_force 104 = .ok (.ior, 1) := by decide +kernel
theorem dX7_force_105 : decode cX7_force 105 = .ok (.invokevirtual 65, 3) := by decide +kernel
theorem dX7_force_108 : decode cX7_force 108 = .ok (.ifCond .eq 5, 3) := by decide +kernel
theorem dX7_force_111 : decode cX7_force 111 = .ok (.iconst 1, 1) := by decide +kernel
theorem dX7_force_112 : decode cX7_force 112 = .ok (.ireturn, 1) := by decide +kernel
theorem dX7_force_113 : decode cX7_force 113 = .ok (.aload_n 0, 1) := by decide +kernel
theorem dX7_force_114 : decode cX7_force 114 = .ok (.getfield 21, 3) := by decide +kernel
theorem dX7_force_117 : decode cX7_force 117 = .ok (.iconst 0, 1) := by decide +kernel
theorem dX7_force_118 : decode cX7_force 118 = .ok (.aload_n 0, 1) := by decide +kernel
theorem dX7_force_119 : decode cX7_force 119 = .ok (.getfield 18, 3) := by decide +kernel
theorem dX7_force_122 : decode cX7_force 122 = .ok (.iconst 0, 1) := by decide +kernel
theorem dX7_force_123 : decode cX7_force 123 = .ok (.bipush 24, 2) := by decide +kernel
theorem dX7_force_125 : decode cX7_force 125 = .ok (.invokestatic 49, 3) := by decide +kernel
theorem dX7_force_128 : decode cX7_force 128 = .ok (.iconst 0, 1) := by decide +kernel
theorem dX7_force_129 : decode cX7_force 129 = .ok (.ireturn, 1) := by decide +kernel
theorem cd_65 (G : ZG) (d : Nat) (K : ZKt) (F : ZFt) (hT : zt5 G.2.2.2) : CS G RX7 cX7_force 6 d K (some .boolean) [] (fun _ => []) 0 (bd_65 G.2.2.2 K F) := by
  unfold bd_65
  exact (CS.seq 8 (CS.decI (CX.pure (CE.aldI (CE.getR (CE.aload_n rfl dX7_force_0 zhd) fs_X7_18 dX7_force_1 zhd) (CE.iload_n rfl dX7_force_4 zhd) (Or.inl ⟨rfl, dX7_force_5⟩) zhd)) (by decide) dX7_force_6 zhd)
  (CS.seq 16 (CS.decI (CX.pure (CE.aldI (CE.getR (CE.aload_n rfl dX7_force_8 zhd) fs_X7_18 dX7_force_9 zhd) (CE.iload_n rfl dX7_force_12 zhd) (Or.inl ⟨rfl, dX7_force_13⟩) zhd)) (by decide) dX7_force_14 zhd)
  (CS.seq 31 (CS.cpy (CE.getR (CE.aload_n rfl dX7_force_16 zhd) fs_X7_18 dX7_force_17 zhd) dX7_force_20 (CE.getR (CE.aload_n rfl dX7_force_21 zhd) fs_X7_21 dX7_force_22 zhd) dX7_force_25 (CE.bipush kB_24 dX7_force_26 zhd) sy_X7_49 dX7_force_28 zhd)
  (CS.seq 49 (CS.if1 (T := 41) (F := 49) (CD.pure (CC.if_ne_F (T := 41) (F := 49) (CE.callS (by decide) (CA.int (CE.iload dX7_force_31 zhd) (CA.int (CE.bipush kB_24 dX7_force_33 zhd) CA.nil)) zi_129 cs_X7_76 (fun _ => rfl) dX7_force_35 zhd) dX7_force_38 rfl rfl)) (CS.st (CE.getR (CE.aload_n rfl dX7_force_41 zhd) fs_X7_18 dX7_force_42 zhd) (CX.pure (CE.iload dX7_force_45 zhd)) (CX.pure (CE.iconst kI_m1 dX7_force_47 zhd)) (Or.inl ⟨rfl, dX7_force_48⟩) zhd) zhd)
  (CS.seq 67 (CS.if1 (T := 59) (F := 67) (CD.pure (CC.if_ne_F (T := 59) (F := 67) (CE.callS (by decide) (CA.int (CE.iload dX7_force_49 zhd) (CA.int (CE.bipush kB_24 dX7_force_51 zhd) CA.nil)) zi_129 cs_X7_76 (fun _ => rfl) dX7_force_53 zhd) dX7_force_56 rfl rfl)) (CS.st (CE.getR (CE.aload_n rfl dX7_force_59 zhd) fs_X7_18 dX7_force_60 zhd) (CX.pure (CE.iload dX7_force_63 zhd)) (CX.pure (CE.iconst kI_m1 dX7_force_65 zhd)) (Or.inl ⟨rfl, dX7_force_66⟩) zhd) zhd)
  (CS.seq 74 (CS.st (CE.getR (CE.aload_n rfl dX7_force_67 zhd) fs_X7_18 dX7_force_68 zhd) (CX.pure (CE.iload_n rfl dX7_force_71 zhd)) (CX.pure (CE.iload_n rfl dX7_force_72 zhd)) (Or.inl ⟨rfl, dX7_force_73⟩) zhd)
  (CS.seq 81 (CS.st (CE.getR (CE.aload_n rfl dX7_force_74 zhd) fs_X7_18 dX7_force_75 zhd) (CX.pure (CE.iload_n rfl dX7_force_78 zhd)) (CX.pure (CE.iload_n rfl dX7_force_79 zhd)) (Or.inl ⟨rfl, dX7_force_80⟩) zhd)
  (CS.seq 95 (CS.if1 (T := 93) (F := 95) (CD.pure (CC.or (CC.icmp_eq_T (T := 93) (F := 87) (CE.iload dX7_force_81 zhd) (CE.iconst kI_m1 dX7_force_83 zhd) dX7_force_84 rfl rfl) (CC.icmp_eq_F (T := 93) (F := 95) (CE.iload dX7_force_87 zhd) (CE.iconst kI_m1 dX7_force_89 zhd) dX7_force_90 rfl rfl))) (CS.retZ (CX.pure (CE.iconst kI_1 dX7_force_93 zhd)) dX7_force_94) zhd)
  (CS.seq 113 (CS.if1 (T := 111) (F := 113) (CD.nz_F (T := 111) (F := 113) (CX.callV (by decide) (CA.ref (CE.aload_n rfl dX7_force_95 zhd) (CA.int (CE.ior (CE.ior (CE.iload_n rfl dX7_force_96 zhd) (CE.ishl (CE.iconst kI_1 dX7_force_97 zhd) (CE.iload_n rfl dX7_force_98 zhd) dX7_force_99 zhd) dX7_force_100 zhd) (CE.ishl (CE.iconst kI_1 dX7_force_101 zhd) (CE.iload_n rfl dX7_force_102 zhd) dX7_force_103 zhd) dX7_force_104 zhd) CA.nil)) zi_66 cv_X7_65 (fun _ => rfl) dX7_force_105 zhd) dX7_force_108 rfl rfl) (CS.retZ (CX.pure (CE.iconst kI_1 dX7_force_111 zhd)) dX7_force_112) zhd)
  (CS.seq 128 (CS.cpy (CE.getR (CE.aload_n rfl dX7_force_113 zhd) fs_X7_21 dX7_force_114 zhd) dX7_force_117 (CE.getR (CE.aload_n rfl dX7_force_118 zhd) fs_X7_18 dX7_force_119 zhd) dX7_force_122 (CE.bipush kB_24 dX7_force_123 zhd) sy_X7_49 dX7_force_125 zhd)
  (CS.retZ (CX.pure (CE.iconst kI_0 dX7_force_128 zhd)) dX7_force_129)))))))))))
theorem dX7_pairOneMore_0 : decode cX7_pairOneMore 0 = .ok (.aload_n 0, 1) := by decide +kernel
theorem dX7_pairOneMore_1 : decode cX7_pairOneMore 1 = .ok (.iload_n 1, 1) := by decide +kernel
theorem dX7_pairOneMore_2 : decode cX7_pairOneMore 2 = .ok (.invokevirtual 80, 3) := by decide +kernel
theorem dX7_pairOneMore_5 : decode cX7_pairOneMore 5 = .ok (.istore_n 2, 1) := by decide +kernel
theorem dX7_pairOneMore_6 : decode cX7_pairOneMore 6 = .ok (.iload_n 1, 1) := by decide +kernel
theorem dX7_pairOneMore_7 : decode cX7_pairOneMore 7 = .ok (.istore_n 3, 1) := by decide +kernel
theorem dX7_pairOneMore_8 : decode cX7_pairOneMore 8 = .ok (.iconst 0, 1) := by decide +kernel
theorem dX7_pairOneMore_9 : decode cX7_pairOneMore 9 = .ok (.istore 4, 2) := by decide +kernel
theorem dX7_pairOneMore_11 : decode cX7_pairOneMore 11 = .ok (.iload 4, 2) := by decide +kernel
theorem dX7_pairOneMore_13 : decode cX7_pairOneMore 13 = .ok (.iload_n 2, 1) := by decide +kernel
theorem dX7_pairOneMore_14 : decode cX7_pairOneMore 14 = .ok (.if_icmp .ge 124, 3) := by decide +kernel
theorem dX7_pairOneMore_17 : decode cX7_pairOneMore 17 = .ok (.iload 4, 2) := by decide +kernel
theorem dX7_pairOneMore_19 : decode cX7_pairOneMore 19 = .ok (.bipush 24, 2) := by decide +kernel
theorem dX7_pairOneMore_21 : decode cX7_pairOneMore 21 = .ok (.if_icmp .ge 117, 3) := by decide +kernel
theorem dX7_pairOneMore_24 : decode cX7_pairOneMore 24 = .ok (.aload_n 0, 1) := by decide +kernel
theorem dX7_pairOneMore_25 : decode cX7_pairOneMore 25 = .ok (.getfield 24, 3) := by decide +kernel
theorem dX7_pairOneMore_28 : decode cX7_pairOneMore 28 = .ok (.iload 4, 2) := by decide +kernel
theorem dX7_pairOneMore_30 : decode cX7_pairOneMore 30 = .ok (.iaload, 1) := by decide +kernel
theorem dX7_pairOneMore_31 : decode cX7_pairOneMore 31 = .ok (.istore 5, 2) := by decide +kernel
theorem dX7_pairOneMore_33 : decode cX7_pairOneMore 33 = .ok (.aload_n 0, 1) := by decide +kernel
theorem dX7_pairOneMore_34 : decode cX7_pairOneMore 34 = .ok (.getfield 15, 3) := by decide +kernel
theorem dX7_pairOneMore_37 : decode cX7_pairOneMore 37 = .ok (.iload 5, 2) := by decide +kernel
theorem dX7_pairOneMore_39 : decode cX7_pairOneMore 39 = .ok (.iaload, 1) := by decide +kernel
theorem dX7_pairOneMore_40 : decode cX7_pairOneMore 40 = .ok (.iload_n 3, 1) := by decide +kernel
theorem dX7_pairOneMore_41 : decode cX7_pairOneMore 41 = .ok (.iconst (-1), 1) := by decide +kernel
theorem dX7_pairOneMore_42 : decode cX7_pairOneMore 42 = .ok (.ixor, 1) := by decide +kernel
theorem dX7_pairOneMore_43 : decode cX7_pairOneMore 43 = .ok (.iand, 1) := by decide +kernel
theorem dX7_pairOneMore_44 : decode cX7_pairOneMore 44 = .ok (.istore 6, 2) := by decide +kernel
theorem dX7_pairOneMore_46 : decode cX7_pairOneMore 46 = .ok (.iconst 0, 1) := by decide +kernel
theorem dX7_pairOneMore_47 : decode cX7_pairOneMore 47 = .ok (.istore 7, 2) := by decide +kernel
theorem dX7_pairOneMore_49 : decode cX7_pairOneMore 49 = .ok (.iload 7, 2) := by decide +kernel
theorem dX7_pairOneMore_51 : decode cX7_pairOneMore 51 = .ok (.aload_n 0, 1) := by decide +kernel
theorem dX7_pairOneMore_52 : decode cX7_pairOneMore 52 = .ok (.getfield 36, 3) := by decide +kernel
theorem dX7_pairOneMore_55 : decode cX7_pairOneMore 55 = .ok (.if_icmp .ge 72, 3) := by decide +kernel
theorem dX7_pairOneMore_58 : decode cX7_pairOneMore 58 = .ok (.iload 6, 2) := by decide +kernel
theorem dX7_pairOneMore_60 : decode cX7_pairOneMore 60 = .ok (.iload 7, 2) := by decide +kernel
theorem dX7_pairOneMore_62 : decode cX7_pairOneMore 62 = .ok (.ishr, 1) := by decide +kernel
theorem dX7_pairOneMore_63 : decode cX7_pairOneMore 63 = .ok (.iconst 1, 1) := by decide +kernel
theorem dX7_pairOneMore_64 : decode cX7_pairOneMore 64 = .ok (.iand, 1) := by decide +kernel
theorem dX7_pairOneMore_65 : decode cX7_pairOneMore 65 = .ok (.ifCond .ne 6, 3) := by decide +kernel
theorem dX7_pairOneMore_68 : decode cX7_pairOneMore 68 = .ok (.goto 53, 3) := by decide +kernel
theorem dX7_pairOneMore_71 : decode cX7_pairOneMore 71 = .ok (.aload_n 0, 1) := by decide +kernel
theorem dX7_pairOneMore_72 : decode cX7_pairOneMore 72 = .ok (.getfield 27, 3) := by decide +kernel
theorem dX7_pairOneMore_75 : decode cX7_pairOneMore 75 = .ok (.iload 7, 2) := by decide +kernel
theorem dX7_pairOneMore_77 : decode cX7_pairOneMore 77 = .ok (.iload 5, 2) := by decide +kernel
theorem dX7_pairOneMore_79 : decode cX7_pairOneMore 79 = .ok (.iastore, 1) := by decide +kernel
theorem dX7_pairOneMore_80 : decode cX7_pairOneMore 80 = .ok (.aload_n 0, 1) := by decide +kernel
theorem dX7_pairOneMore_81 : decode cX7_pairOneMore 81 = .ok (.getfield 18, 3) := by decide +kernel
theorem dX7_pairOneMore_84 : decode cX7_pairOneMore 84 = .ok (.iload 7, 2) := by decide +kernel
theorem dX7_pairOneMore_86 : decode cX7_pairOneMore 86 = .ok (.iaload, 1) := by decide +kernel
theorem dX7_pairOneMore_87 : decode cX7_pairOneMore 87 = .ok (.iconst (-1), 1) := by decide +kernel
theorem dX7_pairOneMore_88 : decode cX7_pairOneMore 88 = .ok (.if_icmp .ne 11, 3) := by decide +kernel
theorem dX7_pairOneMore_91 : decode cX7_pairOneMore 91 = .ok (.aload_n 0, 1) := by decide +kernel
theorem dX7_pairOneMore_92 : decode cX7_pairOneMore 92 = .ok (.iload 7, 2) := by decide +kernel
theorem dX7_pairOneMore_94 : decode cX7_pairOneMore 94 = .ok (.invokevirtual 84, 3) := by decide +kernel
theorem dX7_pairOneMore_97 : decode cX7_pairOneMore 97 = .ok (.iconst 1, 1) := by decide +kernel
theorem dX7_pairOneMore_98 : decode cX7_pairOneMore 98 = .ok (.ireturn, 1) := by decide +kernel
theorem dX7_pairOneMore_99 : decode cX7_pairOneMore 99 = .ok (.iload_n 2, 1) := by decide +kernel
theorem dX7_pairOneMore_100 : decode cX7_pairOneMore 100 = .ok (.bipush 24, 2) := by decide +kernel
theorem dX7_pairOneMore_102 : decode cX7_pairOneMore 102 = .ok (.if_icmp .ge 19, 3) := by decide +kernel
theorem dX7_pairOneMore_105 : decode cX7_pairOneMore 105 = .ok (.aload_n 0, 1) := by decide +kernel
theorem dX7_pairOneMore_106 : decode cX7_pairOneMore 106 = .ok (.getfield 24, 3) := by decide +kernel
theorem dX7_pairOneMore_109 : decode cX7_pairOneMore 109 = .ok (.iload_n 2, 1) := by decide +kernel
theorem dX7_pairOneMore_110 : decode cX7_pairOneMore 110 = .ok (.iinc 2 1, 3) := by decide +kernel
theorem dX7_pairOneMore_113 : decode cX7_pairOneMore 113 = .ok (.aload_n 0, 1) := by decide +kernel
theorem dX7_pairOneMore_114 : decode cX7_pairOneMore 114 = .ok (.getfield 18, 3) := by decide +kernel
theorem dX7_pairOneMore_117 : decode cX7_pairOneMore 117 = .ok (.iload 7, 2) := by decide +kernel
theorem dX7_pairOneMore_119 : decode cX7_pairOneMore 119 = .ok (.iaload, 1) := by decide +kernel
theorem dX7_pairOneMore_120 : decode cX7_pairOneMore 120 = .ok (.iastore, 1) := by decide +kernel
theorem dX7_pairOneMore_121 : decode cX7_pairOneMore 121 = .ok (.iinc 7 1, 3) := by decide +kernel
theorem dX7_pairOneMore_124 : decode cX7_pairOneMore 124 = .ok (.goto (-75), 3) := by decide +kernel
theorem dX7_pairOneMore_127 : decode cX7_pairOneMore 127 = .ok (.iload_n 3, 1) := by decide +kernel
theorem dX7_pairOneMore_128 : decode cX7_pairOneMore 128 = .ok (.iload 6, 2) := by decide +kernel
theorem dX7_pairOneMore_130 : decode cX7_pairOneMore 130 = .ok (.ior, 1) := by decide +kernel
theorem dX7_pairOneMore_131 : decode cX7_pairOneMore 131 = .ok (.istore_n 3, 1) := by decide +kernel
theorem dX7_pairOneMore_132 : decode cX7_pairOneMore 132 = .ok (.iinc 4 1, 3) := by decide +kernel
theorem dX7_pairOneMore_135 : decode cX7_pairOneMore 135 = .ok (.goto (-124), 3) := by decide +kernel
theorem dX7_pairOneMore_138 : decode cX7_pairOneMore 138 = .ok (.iconst 0, 1) := by decide +kernel
theorem dX7_pairOneMore_139 : decode cX7_pairOneMore 139 = .ok (.ireturn, 1) := by decide +kernel
theorem cd_66 (G : ZG) (d : Nat) (K : ZKt) (F : ZFt) (hT : zt5 G.2.2.2) : CS G RX7 cX7_pairOneMore 8 d K (some .boolean) [] (fun _ => []) 0 (bd_66 G.2.2.2 K F) := by
  unfold bd_66
  exact (CS.seq 6 (CS.decI_n (CX.callV (by decide) (CA.ref (CE.aload_n rfl dX7_pairOneMore_0 zhd) (CA.int (CE.iload_n rfl dX7_pairOneMore_1 zhd) CA.nil)) zi_67 cv_X7_80 (fun _ => rfl) dX7_pairOneMore_2 zhd) rfl (by decide) dX7_pairOneMore_5 zhd)
  (CS.seq 8 (CS.decI_n (CX.pure (CE.iload_n rfl dX7_pairOneMore_6 zhd)) rfl (by decide) dX7_pairOneMore_7 zhd)
  (CS.seq 138 (CS.scope (CS.seq 11 (CS.decI (CX.pure (CE.iconst kI_0 dX7_pairOneMore_8 zhd)) (by decide) dX7_pairOneMore_9 zhd)
  (CS.whl (T := 24) (F := 138) (p1 := 135) (CD.pure (CC.and (CC.icmp_lt_F (T := 17) (F := 138) (CE.iload dX7_pairOneMore_11 zhd) (CE.iload_n rfl dX7_pairOneMore_13 zhd) dX7_pairOneMore_14 rfl rfl) (CC.icmp_lt_F (T := 24) (F := 138) (CE.iload dX7_pairOneMore_17 zhd) (CE.bipush kB_24 dX7_pairOneMore_19 zhd) dX7_pairOneMore_21 rfl rfl)))
  (CS.seq 132 (CS.scope (CS.seq 33 (CS.decI (CX.pure (CE.aldI (CE.getR (CE.aload_n rfl dX7_pairOneMore_24 zhd) fs_X7_24 dX7_pairOneMore_25 zhd) (CE.iload dX7_pairOneMore_28 zhd) (Or.inl ⟨rfl, dX7_pairOneMore_30⟩) zhd)) (by decide) dX7_pairOneMore_31 zhd)
  (CS.seq 46 (CS.decI (CX.pure (CE.iand (CE.aldI (CE.getR (CE.aload_n rfl dX7_pairOneMore_33 zhd) fs_X7_15 dX7_pairOneMore_34 zhd) (CE.iload dX7_pairOneMore_37 zhd) (Or.inl ⟨rfl, dX7_pairOneMore_39⟩) zhd) (CE.ixor (CE.iload_n rfl dX7_pairOneMore_40 zhd) (CE.iconst kI_m1 dX7_pairOneMore_41 zhd) dX7_pairOneMore_42 zhd) dX7_pairOneMore_43 zhd)) (by decide) dX7_pairOneMore_44 zhd)
  (CS.seq 127 (CS.scope (CS.seq 49 (CS.decI (CX.pure (CE.iconst kI_0 dX7_pairOneMore_46 zhd)) (by decide) dX7_pairOneMore_47 zhd)
  (CS.for (T := 58) (F := 127) (pu := 121) (p1 := 124) (kb := 3) (kc := 4) (CD.pure (CC.icmp_lt_F (T := 58) (F := 127) (CE.iload dX7_pairOneMore_49 zhd) (CE.getI (CE.aload_n rfl dX7_pairOneMore_51 zhd) fs_X7_36 dX7_pairOneMore_52 zhd) dX7_pairOneMore_55 rfl rfl))
  (CS.seq 71 (CS.ifT (F := 71) (CDT.of (CD.pure (CC.if_eq_F (T := 68) (F := 71) (CE.iand (CE.ishr (CE.iload dX7_pairOneMore_58 zhd) (CE.iload dX7_pairOneMore_60 zhd) dX7_pairOneMore_62 zhd) (CE.iconst kI_1 dX7_pairOneMore_63 zhd) dX7_pairOneMore_64 zhd) dX7_pairOneMore_65 rfl rfl)) zhd) (CS.brk (q := 121) dX7_pairOneMore_68 rfl zhd) (CS.brk0 zhd) zhd)
  (CS.seq 80 (CS.st (CE.getR (CE.aload_n rfl dX7_pairOneMore_71 zhd) fs_X7_27 dX7_pairOneMore_72 zhd) (CX.pure (CE.iload dX7_pairOneMore_75 zhd)) (CX.pure (CE.iload dX7_pairOneMore_77 zhd)) (Or.inl ⟨rfl, dX7_pairOneMore_79⟩) zhd)
  (CS.seq 99 (CS.if1 (T := 91) (F := 99) (CD.pure (CC.icmp_eq_F (T := 91) (F := 99) (CE.aldI (CE.getR (CE.aload_n rfl dX7_pairOneMore_80 zhd) fs_X7_18 dX7_pairOneMore_81 zhd) (CE.iload dX7_pairOneMore_84 zhd) (Or.inl ⟨rfl, dX7_pairOneMore_86⟩) zhd) (CE.iconst kI_m1 dX7_pairOneMore_87 zhd) dX7_pairOneMore_88 rfl rfl)) (CS.seq 97 (CS.callV (CA.ref (CE.aload_n rfl dX7_pairOneMore_91 zhd) (CA.int (CE.iload dX7_pairOneMore_92 zhd) CA.nil)) zi_68 cv_X7_84 (fun _ => rfl) dX7_pairOneMore_94 zhd)
  (CS.retZ (CX.pure (CE.iconst kI_1 dX7_pairOneMore_97 zhd)) dX7_pairOneMore_98)) zhd)
  (CS.if1 (T := 105) (F := 121) (CD.pure (CC.icmp_lt_F (T := 105) (F := 121) (CE.iload_n rfl dX7_pairOneMore_99 zhd) (CE.bipush kB_24 dX7_pairOneMore_100 zhd) dX7_pairOneMore_102 rfl rfl)) (CS.st (CE.getR (CE.aload_n rfl dX7_pairOneMore_105 zhd) fs_X7_24 dX7_pairOneMore_106 zhd) (CX.incL (i := 2) (CE.iload_n rfl dX7_pairOneMore_109 zhd) (by decide) dX7_pairOneMore_110 zhd) (CX.pure (CE.aldI (CE.getR (CE.aload_n rfl dX7_pairOneMore_113 zhd) fs_X7_18 dX7_pairOneMore_114 zhd) (CE.iload dX7_pairOneMore_117 zhd) (Or.inl ⟨rfl, dX7_pairOneMore_119⟩) zhd)) (Or.inl ⟨rfl, dX7_pairOneMore_120⟩) zhd) zhd)))) (CS.inc kI_1 (by decide) dX7_pairOneMore_121 zhd) dX7_pairOneMore_124 rfl zhd)))
  (CS.setI_n (CX.pure (CE.ior (CE.iload_n rfl dX7_pairOneMore_127 zhd) (CE.iload dX7_pairOneMore_128 zhd) dX7_pairOneMore_130 zhd)) rfl (by decide) dX7_pairOneMore_131 zhd)))))
  (CS.inc kI_1 (by decide) dX7_pairOneMore_132 zhd)) dX7_pairOneMore_135 rfl zhd)))
  (CS.retZ (CX.pure (CE.iconst kI_0 dX7_pairOneMore_138 zhd)) dX7_pairOneMore_139))))
theorem dX7_queueFree_0 : decode cX7_queueFree 0 = .ok (.iconst 0, 1) := by decide +kernel
theorem dX7_queueFree_1 : decode cX7_queueFree 1 = .ok (.istore_n 2, 1) := by decide +kernel
theorem dX7_queueFree_2 : decode cX7_queueFree 2 = .ok (.iconst 0, 1) := by decide +kernel
theorem dX7_queueFree_3 : decode cX7_queueFree 3 = .ok (.istore_n 3, 1) := by decide +kernel
theorem dX7_queueFree_4 : decode cX7_queueFree 4 = .ok (.iload_n 3, 1) := by decide +kernel
theorem dX7_queueFree_5 : decode cX7_queueFree 5 = .ok (.aload_n 0, 1) := by decide +kernel
theorem dX7_queueFree_6 : decode cX7_queueFree 6 = .ok (.getfield 36, 3) := by decide +kernel
theorem dX7_queueFree_9 : decode cX7_queueFree 9 = .ok (.if_icmp .ge 62, 3) := by decide +kernel
theorem dX7_queueFree_12 : decode cX7_queueFree 12 = .ok (.aload_n 0, 1) := by decide +kernel
theorem dX7_queueFree_13 : decode cX7_queueFree 13 = .ok (.getfield 9, 3) := by decide +kernel
theorem dX7_queueFree_16 : decode cX7_queueFree 16 = .ok (.iload_n 3, 1) := by decide +kernel
theorem dX7_queueFree_17 : decode cX7_queueFree 17 = .ok (.iaload, 1) := by decide +kernel
theorem dX7_queueFree_18 : decode cX7_queueFree 18 = .ok (.aload_n 0, 1) := by decide +kernel
theorem dX7_queueFree_19 : decode cX7_queueFree 19 = .ok (.getfield 37, 3) := by decide +kernel
theorem dX7_queueFree_22 : decode cX7_queueFree 22 = .ok (.if_icmp .ne 17, 3) := by decide +kernel
theorem dX7_queueFree_25 : decode cX7_queueFree 25 = .ok (.aload_n 0, 1) := by decide +kernel
theorem dX7_queueFree_26 : decode cX7_queueFree 26 = .ok (.getfield 18, 3) := by decide +kernel
theorem dX7_queueFree_29 : decode cX7_queueFree 29 = .ok (.iload_n 3, 1) := by decide +kernel
theorem dX7_queueFree_30 : decode cX7_queueFree 30 = .ok (.iaload, 1) := by decide +kernel
theorem dX7_queueFree_31 : decode cX7_queueFree 31 = .ok (.iconst (-1), 1) := by decide +kernel
theorem dX7_queueFree_32 : decode cX7_queueFree 32 = .ok (.if_icmp .ne 7, 3) := by decide +kernel
theorem dX7_queueFree_35 : decode cX7_queueFree 35 = .ok (.iconst 1, 1) := by decide +kernel
theorem dX7_queueFree_36 : decode cX7_queueFree 36 = .ok (.goto 4, 3) := by decide +kernel
theorem dX7_queueFree_39 : decode cX7_queueFree 39 = .ok (.iconst 0, 1) := by decide +kernel
theorem dX7_queueFree_40 : decode cX7_queueFree 40 = .ok (.istore 4, 2) := by decide +kernel
theorem dX7_queueFree_42 : decode cX7_queueFree 42 = .ok (.iload 4, 2) := by decide +kernel
theorem dX7_queueFree_44 : decode cX7_queueFree 44 = .ok (.ifCond .eq 21, 3) := by decide +kernel
theorem dX7_queueFree_47 : decode cX7_queueFree 47 = .ok (.iload_n 1, 1) := by decide +kernel
theorem dX7_queueFree_48 : decode cX7_queueFree 48 = .ok (.iload_n 3, 1) := by decide +kernel
theorem dX7_queueFree_49 : decode cX7_queueFree 49 = .ok (.ishr, 1) := by decide +kernel
theorem dX7_queueFree_50 : decode cX7_queueFree 50 = .ok (.iconst 1, 1) := by decide +kernel
theorem dX7_queueFree_51 : decode cX7_queueFree 51 = .ok (.iand, 1) := by decide +kernel
theorem dX7_queueFree_52 : decode cX7_queueFree 52 = .ok (.ifCond .ne 13, 3) := by decide +kernel
theorem dX7_queueFree_55 : decode cX7_queueFree 55 = .ok (.aload_n 0, 1) := by decide +kernel
theorem dX7_queueFree_56 : decode cX7_queueFree 56 = .ok (.getfield 24, 3) := by decide +kernel
theorem dX7_queueFree_59 : decode cX7_queueFree 59 = .ok (.iload_n 2, 1) := by decide +kernel
theorem dX7_queueFree_60 : decode cX7_queueFree 60 = .ok (.iinc 2 1, 3) := by decide +kernel
theorem dX7_queueFree_63 : decode cX7_queueFree 63 = .ok (.iload_n 3, 1) := by decide +kernel
theorem dX7_queueFree_64 : decode cX7_queueFree 64 = .ok (.iastore, 1) := by decide +kernel
theorem dX7_queueFree_65 : decode cX7_queueFree 65 = .ok (.iinc 3 1, 3) := by decide +kernel
theorem dX7_queueFree_68 : decode cX7_queueFree 68 = .ok (.goto (-64), 3) := by decide +kernel
theorem dX7_queueFree_71 : decode cX7_queueFree 71 = .ok (.iload_n 2, 1) := by decide +kernel
theorem dX7_queueFree_72 : decode cX7_queueFree 72 = .ok (.ireturn, 1) := by decide +kernel
theorem cd_67 (G : ZG) (d : Nat) (K : ZKt) (F : ZFt) (hT : zt5 G.2.2.2) : CS G RX7 cX7_queueFree 5 d K (some .int) [] (fun _ => []) 0 (bd_67 G.2.2.2 K F) := by
  unfold bd_67
  exact (CS.seq 2 (CS.decI_n (CX.pure (CE.iconst kI_0 dX7_queueFree_0 zhd)) rfl (by decide) dX7_queueFree_1 zhd)
  (CS.seq 71 (CS.scope (CS.seq 4 (CS.decI_n (CX.pure (CE.iconst kI_0 dX7_queueFree_2 zhd)) rfl (by decide) dX7_queueFree_3 zhd)
  (CS.whl (T := 12) (F := 71) (p1 := 68) (CD.pure (CC.icmp_lt_F (T := 12) (F := 71) (CE.iload_n rfl dX7_queueFree_4 zhd) (CE.getI (CE.aload_n rfl dX7_queueFree_5 zhd) fs_X7_36 dX7_queueFree_6 zhd) dX7_queueFree_9 rfl rfl))
  (CS.seq 65 (CS.scope (CS.seq 42 (CS.decI (CX.pure (CE.bool (T := 35) (F := 39) (q := 40) (CC.and (CC.icmp_eq_F (T := 25) (F := 39) (CE.aldI (CE.getR (CE.aload_n rfl dX7_queueFree_12 zhd) fs_X7_9 dX7_queueFree_13 zhd) (CE.iload_n rfl dX7_queueFree_16 zhd) (Or.inl ⟨rfl, dX7_queueFree_17⟩) zhd) (CE.getI (CE.aload_n rfl dX7_queueFree_18 zhd) fs_X7_37 dX7_queueFree_19 zhd) dX7_queueFree_22 rfl rfl) (CC.icmp_eq_F (T := 35) (F := 39) (CE.aldI (CE.getR (CE.aload_n rfl dX7_queueFree_25 zhd) fs_X7_18 dX7_queueFree_26 zhd) (CE.iload_n rfl dX7_queueFree_29 zhd) (Or.inl ⟨rfl, dX7_queueFree_30⟩) zhd) (CE.iconst kI_m1 dX7_queueFree_31 zhd) dX7_queueFree_32 rfl rfl)) dX7_queueFree_35 rfl dX7_queueFree_36 rfl zhd dX7_queueFree_39 zhd)) (by decide) dX7_queueFree_40 zhd)
  (CS.if1 (T := 55) (F := 65) (CD.pure (CC.and (CC.if_ne_F (T := 47) (F := 65) (CE.iload dX7_queueFree_42 zhd) dX7_queueFree_44 rfl rfl) (CC.if_eq_F (T := 55) (F := 65) (CE.iand (CE.ishr (CE.iload_n rfl dX7_queueFree_47 zhd) (CE.iload_n rfl dX7_queueFree_48 zhd) dX7_queueFree_49 zhd) (CE.iconst kI_1 dX7_queueFree_50 zhd) dX7_queueFree_51 zhd) dX7_queueFree_52 rfl rfl))) (CS.st (CE.getR (CE.aload_n rfl dX7_queueFree_55 zhd) fs_X7_24 dX7_queueFree_56 zhd) (CX.incL (i := 2) (CE.iload_n rfl dX7_queueFree_59 zhd) (by decide) dX7_queueFree_60 zhd) (CX.pure (CE.iload_n rfl dX7_queueFree_63 zhd)) (Or.inl ⟨rfl, dX7_queueFree_64⟩) zhd) zhd)))
  (CS.inc kI_1 (by decide) dX7_queueFree_65 zhd)) dX7_queueFree_68 rfl zhd)))
  (CS.retI (CX.pure (CE.iload_n rfl dX7_queueFree_71 zhd)) dX7_queueFree_72)))
theorem dX7_turnFrom_0 : decode cX7_turnFrom 0 = .ok (.iload_n 1, 1) := by decide +kernel
theorem dX7_turnFrom_1 : decode cX7_turnFrom 1 = .ok (.istore_n 2, 1) := by decide +kernel
theorem dX7_turnFrom_2 : decode cX7_turnFrom 2 = .ok (.iconst 0, 1) := by decide +kernel
theorem dX7_turnFrom_3 : decode cX7_turnFrom 3 = .ok (.istore_n 3, 1) := by decide +kernel
theorem dX7_turnFrom_4 : decode cX7_turnFrom 4 = .ok (.iload_n 3, 1) := by decide +kernel
theorem dX7_turnFrom_5 : decode cX7_turnFrom 5 = .ok (.bipush 24, 2) := by decide +kernel
theorem dX7_turnFrom_7 : decode cX7_turnFrom 7 = .ok (.if_icmp .ge 54, 3) := by decide +kernel
theorem dX7_turnFrom_10 : decode cX7_turnFrom 10 = .ok (.iload_n 2, 1) := by decide +kernel
theorem dX7_turnFrom_11 : decode cX7_turnFrom 11 = .ok (.bipush 24, 2) := by decide +kernel
theorem dX7_turnFrom_13 : decode cX7_turnFrom 13 = .ok (.invokestatic 76, 3) := by decide +kernel
theorem dX7_turnFrom_16 : decode cX7_turnFrom 16 = .ok (.ifCond .eq 45, 3) := by decide +kernel
theorem dX7_turnFrom_19 : decode cX7_turnFrom 19 = .ok (.aload_n 0, 1) := by decide +kernel
theorem dX7_turnFrom_20 : decode cX7_turnFrom 20 = .ok (.getfield 27, 3) := by decide +kernel
theorem dX7_turnFrom_23 : decode cX7_turnFrom 23 = .ok (.iload_n 2, 1) := by decide +kernel
theorem dX7_turnFrom_24 : decode cX7_turnFrom 24 = .ok (.iaload, 1) := by decide +kernel
theorem dX7_turnFrom_25 : decode cX7_turnFrom 25 = .ok (.istore 4, 2) := by decide +kernel
theorem dX7_turnFrom_27 : decode cX7_turnFrom 27 = .ok (.aload_n 0, 1) := by decide +kernel
theorem dX7_turnFrom_28 : decode cX7_turnFrom 28 = .ok (.getfield 18, 3) := by decide +kernel
theorem dX7_turnFrom_31 : decode cX7_turnFrom 31 = .ok (.iload 4, 2) := by decide +kernel
theorem dX7_turnFrom_33 : decode cX7_turnFrom 33 = .ok (.iaload, 1) := by decide +kernel
theorem dX7_turnFrom_34 : decode cX7_turnFrom 34 = .ok (.istore 5, 2) := by decide +kernel
theorem dX7_turnFrom_36 : decode cX7_turnFrom 36 = .ok (.aload_n 0, 1) := by decide +kernel
theorem dX7_turnFrom_37 : decode cX7_turnFrom 37 = .ok (.getfield 18, 3) := by decide +kernel
theorem dX7_turnFrom_40 : decode cX7_turnFrom 40 = .ok (.iload 4, 2) := by decide +kernel
theorem dX7_turnFrom_42 : decode cX7_turnFrom 42 = .ok (.iload_n 2, 1) := by decide +kernel
theorem dX7_turnFrom_43 : decode cX7_turnFrom 43 = .ok (.iastore, 1) := by decide +kernel
theorem dX7_turnFrom_44 : decode cX7_turnFrom 44 = .ok (.aload_n 0, 1) := by decide +kernel
theorem dX7_turnFrom_45 : decode cX7_turnFrom 45 = .ok (.getfield 18, 3) := by decide +kernel
theorem dX7_turnFrom_48 : decode cX7_turnFrom 48 = .ok (.iload_n 2, 1) := by decide +kernel
theorem dX7_turnFrom_49 : decode cX7_turnFrom 49 = .ok (.iload 4, 2) := by decide +kernel
theorem dX7_turnFrom_51 : decode cX7_turnFrom 51 = .ok (.iastore, 1) := by decide +kernel
theorem dX7_turnFrom_52 : decode cX7_turnFrom 52 = .ok (.iload 5, 2) := by decide +kernel
theorem dX7_turnFrom_54 : decode cX7_turnFrom 54 = .ok (.istore_n 2, 1) := by decide +kernel
theorem dX7_turnFrom_55 : decode cX7_turnFrom 55 = .ok (.iinc 3 1, 3) := by decide +kernel
theorem dX7_turnFrom_58 : decode cX7_turnFrom 58 = .ok (.goto (-54), 3) := by decide +kernel
theorem dX7_turnFrom_61 : decode cX7_turnFrom 61 = .ok (.return_, 1) := by decide +kernel
theorem cd_68 (G : ZG) (d : Nat) (K : ZKt) (F : ZFt) (hT : zt5 G.2.2.2) : CS G RX7 cX7_turnFrom 6 d K (none) [] (fun _ => []) 0 (bd_68 G.2.2.2 K F) := by
  unfold bd_68
  exact (CS.seq 61 (CS.seq 2 (CS.decI_n (CX.pure (CE.iload_n rfl dX7_turnFrom_0 zhd)) rfl (by decide) dX7_turnFrom_1 zhd)
  (CS.scope (CS.seq 4 (CS.decI_n (CX.pure (CE.iconst kI_0 dX7_turnFrom_2 zhd)) rfl (by decide) dX7_turnFrom_3 zhd)
  (CS.whl (T := 19) (F := 61) (p1 := 58) (CD.pure (CC.and (CC.icmp_lt_F (T := 10) (F := 61) (CE.iload_n rfl dX7_turnFrom_4 zhd) (CE.bipush kB_24 dX7_turnFrom_5 zhd) dX7_turnFrom_7 rfl rfl) (CC.if_ne_F (T := 19) (F := 61) (CE.callS (by decide) (CA.int (CE.iload_n rfl dX7_turnFrom_10 zhd) (CA.int (CE.bipush kB_24 dX7_turnFrom_11 zhd) CA.nil)) zi_129 cs_X7_76 (fun _ => rfl) dX7_turnFrom_13 zhd) dX7_turnFrom_16 rfl rfl)))
  (CS.seq 55 (CS.scope (CS.seq 27 (CS.decI (CX.pure (CE.aldI (CE.getR (CE.aload_n rfl dX7_turnFrom_19 zhd) fs_X7_27 dX7_turnFrom_20 zhd) (CE.iload_n rfl dX7_turnFrom_23 zhd) (Or.inl ⟨rfl, dX7_turnFrom_24⟩) zhd)) (by decide) dX7_turnFrom_25 zhd)
  (CS.seq 36 (CS.decI (CX.pure (CE.aldI (CE.getR (CE.aload_n rfl dX7_turnFrom_27 zhd) fs_X7_18 dX7_turnFrom_28 zhd) (CE.iload dX7_turnFrom_31 zhd) (Or.inl ⟨rfl, dX7_turnFrom_33⟩) zhd)) (by decide) dX7_turnFrom_34 zhd)
  (CS.seq 44 (CS.st (CE.getR (CE.aload_n rfl dX7_turnFrom_36 zhd) fs_X7_18 dX7_turnFrom_37 zhd) (CX.pure (CE.iload dX7_turnFrom_40 zhd)) (CX.pure (CE.iload_n rfl dX7_turnFrom_42 zhd)) (Or.inl ⟨rfl, dX7_turnFrom_43⟩) zhd)
  (CS.seq 52 (CS.st (CE.getR (CE.aload_n rfl dX7_turnFrom_44 zhd) fs_X7_18 dX7_turnFrom_45 zhd) (CX.pure (CE.iload_n rfl dX7_turnFrom_48 zhd)) (CX.pure (CE.iload dX7_turnFrom_49 zhd)) (Or.inl ⟨rfl, dX7_turnFrom_51⟩) zhd)
  (CS.setI_n (CX.pure (CE.iload dX7_turnFrom_52 zhd)) rfl (by decide) dX7_turnFrom_54 zhd))))))
  (CS.inc kI_1 (by decide) dX7_turnFrom_55 zhd)) dX7_turnFrom_58 rfl zhd))))
  (CS.retV dX7_turnFrom_61))
theorem dX7_pairsMade_0 : decode cX7_pairsMade 0 = .ok (.iconst 0, 1) := by decide +kernel
theorem dX7_pairsMade_1 : decode cX7_pairsMade 1 = .ok (.istore_n 1, 1) := by decide +kernel
theorem dX7_pairsMade_2 : decode cX7_pairsMade 2 = .ok (.iconst 0, 1) := by decide +kernel
theorem dX7_pairsMade_3 : decode cX7_pairsMade 3 = .ok (.istore_n 2, 1) := by decide +kernel
theorem dX7_pairsMade_4 : decode cX7_pairsMade 4 = .ok (.iload_n 2, 1) := by decide +kernel
theorem dX7_pairsMade_5 : decode cX7_pairsMade 5 = .ok (.aload_n 0, 1) := by decide +kernel
theorem dX7_pairsMade_6 : decode cX7_pairsMade 6 = .ok (.getfield 36, 3) := by decide +kernel
theorem dX7_pairsMade_9 : decode cX7_pairsMade 9 = .ok (.if_icmp .ge 21, 3) := by decide +kernel
theorem dX7_pairsMade_12 : decode cX7_pairsMade 12 = .ok (.aload_n 0, 1) := by decide +kernel
theorem dX7_pairsMade_13 : decode cX7_pairsMade 13 = .ok (.iload_n 2, 1) := by decide +kernel
theorem dX7_pairsMade_14 : decode cX7_pairsMade 14 = .ok (.invokevirtual 88, 3) := by decide +kernel
theorem dX7_pairsMade_17 : decode cX7_pairsMade 17 = .ok (.iconst (-1), 1) := by decide +kernel
theorem dX7_pairsMade_18 : decode cX7_pairsMade 18 = .ok (.if_icmp .eq 6, 3) := by decide +kernel
theorem dX7_pairsMade_21 : decode cX7_pairsMade 21 = .ok (.iinc 1 1, 3) := by decide +kernel
theorem dX7_pairsMade_24 : decode cX7_pairsMade 24 = .ok (.iinc 2 1, 3) := by decide +kernel
theorem dX7_pairsMade_27 : decode cX7_pairsMade 27 = .ok (.goto (-23), 3) := by decide +kernel
theorem dX7_pairsMade_30 : decode cX7_pairsMade 30 = .ok (.iload_n 1, 1) := by decide +kernel
theorem dX7_pairsMade_31 : decode cX7_pairsMade 31 = .ok (.ireturn, 1) := by decide +kernel
theorem cd_69 (G : ZG) (d : Nat) (K : ZKt) (F : ZFt) (hT : zt5 G.2.2.2) : CS G RX7 cX7_pairsMade 3 d K (some .int) [] (fun _ => []) 0 (bd_69 G.2.2.2 K F) := by
  unfold bd_69
  exact (CS.seq 2 (CS.decI_n (CX.pure (CE.iconst kI_0 dX7_pairsMade_0 zhd)) rfl (by decide) dX7_pairsMade_1 zhd)
  (CS.seq 30 (CS.scope (CS.seq 4 (CS.decI_n (CX.pure (CE.iconst kI_0 dX7_pairsMade_2 zhd)) rfl (by decide) dX7_pairsMade_3 zhd)
  (CS.whl (T := 12) (F := 30) (p1 := 27) (CD.pure (CC.icmp_lt_F (T := 12) (F := 30) (CE.iload_n rfl dX7_pairsMade_4 zhd) (CE.getI (CE.aload_n rfl dX7_pairsMade_5 zhd) fs_X7_36 dX7_pairsMade_6 zhd) dX7_pairsMade_9 rfl rfl))
  (CS.seq 24 (CS.if1 (T := 21) (F := 24) (CD.pure (CC.icmp_ne_F (T := 21) (F := 24) (CE.callV (by decide) (CA.ref (CE.aload_n rfl dX7_pairsMade_12 zhd) (CA.int (CE.iload_n rfl dX7_pairsMade_13 zhd) CA.nil)) zi_70 cv_X7_88 (fun _ => rfl) dX7_pairsMade_14 zhd) (CE.iconst kI_m1 dX7_pairsMade_17 zhd) dX7_pairsMade_18 rfl rfl)) (CS.inc kI_1 (by decide) dX7_pairsMade_21 zhd) zhd)
  (CS.inc kI_1 (by decide) dX7_pairsMade_24 zhd)) dX7_pairsMade_27 rfl zhd)))
  (CS.retI (CX.pure (CE.iload_n rfl dX7_pairsMade_30 zhd)) dX7_pairsMade_31)))
theorem dX7_partnerOf_0 : decode cX7_partnerOf 0 = .ok (.iload_n 1, 1) := by decide +kernel
theorem dX7_partnerOf_1 : decode cX7_partnerOf 1 = .ok (.aload_n 0, 1) := by decide +kernel
theorem dX7_partnerOf_2 : decode cX7_partnerOf 2 = .ok (.getfield 36, 3) := by decide +kernel
theorem dX7_partnerOf_5 : decode cX7_partnerOf 5 = .ok (.invokestatic 76, 3) := by decide +kernel
theorem dX7_partnerOf_8 : decode cX7_partnerOf 8 = .ok (.ifCond .eq 25, 3) := by decide +kernel
theorem dX7_partnerOf_11 : decode cX7_partnerOf 11 = .ok (.aload_n 0, 1) := by decide +kernel
theorem dX7_partnerOf_12 : decode cX7_partnerOf 12 = .ok (.getfield 9, 3) := by decide +kernel
theorem dX7_partnerOf_15 : decode cX7_partnerOf 15 = .ok (.iload_n 1, 1) := by decide +kernel
theorem dX7_partnerOf_16 : decode cX7_partnerOf 16 = .ok (.iaload, 1) := by decide +kernel
theorem dX7_partnerOf_17 : decode cX7_partnerOf 17 = .ok (.aload_n 0, 1) := by decide +kernel
theorem dX7_partnerOf_18 : decode cX7_partnerOf 18 = .ok (.getfield 37, 3) := by decide +kernel
theorem dX7_partnerOf_21 : decode cX7_partnerOf 21 = .ok (.if_icmp .ne 12, 3) := by decide +kernel
theorem dX7_partnerOf_24 : decode cX7_partnerOf 24 = .ok (.aload_n 0, 1) := by decide +kernel
theorem dX7_partnerOf_25 : decode cX7_partnerOf 25 = .ok (.getfield 18, 3) := by decide +kernel
theorem dX7_partnerOf_28 : decode cX7_partnerOf 28 = .ok (.iload_n 1, 1) := by decide +kernel
theorem dX7_partnerOf_29 : decode cX7_partnerOf 29 = .ok (.iaload, 1) := by decide +kernel
theorem dX7_partnerOf_30 : decode cX7_partnerOf 30 = .ok (.goto 4, 3) := by decide +kernel
theorem dX7_partnerOf_33 : decode cX7_partnerOf 33 = .ok (.iconst (-1), 1) := by decide +kernel
theorem dX7_partnerOf_34 : decode cX7_partnerOf 34 = .ok (.ireturn, 1) := by decide +kernel
theorem cd_70 (G : ZG) (d : Nat) (K : ZKt) (F : ZFt) (hT : zt5 G.2.2.2) : CS G RX7 cX7_partnerOf 2 d K (some .int) [] (fun _ => []) 0 (bd_70 G.2.2.2 K F) := by
  unfold bd_70
  exact (CS.retI (CX.pure (CE.tern (T := 24) (F := 33) (p1 := 30) (q := 34) (CC.and (CC.if_ne_F (T := 11) (F := 33) (CE.callS (by decide) (CA.int (CE.iload_n rfl dX7_partnerOf_0 zhd) (CA.int (CE.getI (CE.aload_n rfl dX7_partnerOf_1 zhd) fs_X7_36 dX7_partnerOf_2 zhd) CA.nil)) zi_129 cs_X7_76 (fun _ => rfl) dX7_partnerOf_5 zhd) dX7_partnerOf_8 rfl rfl) (CC.icmp_eq_F (T := 24) (F := 33) (CE.aldI (CE.getR (CE.aload_n rfl dX7_partnerOf_11 zhd) fs_X7_9 dX7_partnerOf_12 zhd) (CE.iload_n rfl dX7_partnerOf_15 zhd) (Or.inl ⟨rfl, dX7_partnerOf_16⟩) zhd) (CE.getI (CE.aload_n rfl dX7_partnerOf_17 zhd) fs_X7_37 dX7_partnerOf_18 zhd) dX7_partnerOf_21 rfl rfl)) (CE.aldI (CE.getR (CE.aload_n rfl dX7_partnerOf_24 zhd) fs_X7_18 dX7_partnerOf_25 zhd) (CE.iload_n rfl dX7_partnerOf_28 zhd) (Or.inl ⟨rfl, dX7_partnerOf_29⟩) zhd) zex2 dX7_partnerOf_30 rfl zhd (CE.iconst kI_m1 dX7_partnerOf_33 zhd))) dX7_partnerOf_34)
theorem dX8_add_0 : decode cX8_add 0 = .ok (.aload_n 0, 1) := by decide +kernel
theorem dX8_add_1 : decode cX8_add 1 = .ok (.getfield 15, 3) := by decide +kernel
theorem dX8_add_4 : decode cX8_add 4 = .ok (.bipush 12, 2) := by decide +kernel
theorem dX8_add_6 : decode cX8_add 6 = .ok (.if_icmp .lt 6, 3) := by decide +kernel
theorem dX8_add_9 : decode cX8_add 9 = .ok (.bipush (-104), 2) := by decide +kernel
theorem dX8_add_11 : decode cX8_add 11 = .ok (.ireturn, 1) := by decide +kernel
theorem dX8_add_12 : decode cX8_add 12 = .ok (.aload_n 0, 1) := by decide +kernel
theorem dX8_add_13 : decode cX8_add 13 = .ok (.getfield 9, 3) := by decide +kernel
theorem dX8_add_16 : decode cX8_add 16 = .ok (.aload_n 0, 1) := by decide +kernel
theorem dX8_add_17 : decode cX8_add 17 = .ok (.getfield 15, 3) := by decide +kernel
theorem dX8_add_20 : decode cX8_add 20 = .ok (.iload_n 1, 1) := by decide +kernel
theorem dX8_add_21 : decode cX8_add 21 = .ok (.iastore, 1) := by decide +kernel
theorem dX8_add_22 : decode cX8_add 22 = .ok (.aload_n 0, 1) := by decide +kernel
theorem dX8_add_23 : decode cX8_add 23 = .ok (.dup, 1) := by decide +kernel
theorem dX8_add_24 : decode cX8_add 24 = .ok (.getfield 15, 3) := by decide +kernel
theorem dX8_add_27 : decode cX8_add 27 = .ok (.iconst 1, 1) := by decide +kernel
theorem dX8_add_28 : decode cX8_add 28 = .ok (.iadd, 1) := by decide +kernel
theorem dX8_add_29 : decode cX8_add 29 = .ok (.dup_x1, 1) := by decide +kernel
theorem dX8_add_30 : decode cX8_add 30 = .ok (.putfield 15, 3) := by decide +kernel
theorem dX8_add_33 : decode cX8_add 33 = .ok (.ireturn, 1) := by decide +kernel
theorem cd_71 (G : ZG) (d : Nat) (K : ZKt) (F : ZFt) (hT : zt5 G.2.2.2) : CS G RX8 cX8_add 2 d K (some .int) [] (fun _ => []) 0 (bd_71 G.2.2.2 K F) := by
  unfold bd_71
  exact (CS.seq 12 (CS.if1 (T := 9) (F := 12) (CD.pure (CC.icmp_ge_F (T := 9) (F := 12) (CE.getI (CE.aload_n rfl dX8_add_0 zhd) fs_X8_15 dX8_add_1 zhd) (CE.bipush kB_12 dX8_add_4 zhd) dX8_add_6 rfl rfl)) (CS.retI (CX.pure (CE.bipush kB_m104 dX8_add_9 zhd)) dX8_add_11) zhd)
  (CS.seq 22 (CS.st (CE.getR (CE.aload_n rfl dX8_add_12 zhd) fs_X8_9 dX8_add_13 zhd) (CX.pure (CE.getI (CE.aload_n rfl dX8_add_16 zhd) fs_X8_15 dX8_add_17 zhd)) (CX.pure (CE.iload_n rfl dX8_add_20 zhd)) (Or.inl ⟨rfl, dX8_add_21⟩) zhd)
  (CS.retI (CX.pre (CE.aload_n rfl dX8_add_22 zhd) dX8_add_23 dX8_add_24 dX8_add_27 dX8_add_28 dX8_add_29 fs_X8_15 fp_X8_15 dX8_add_30 zhd) dX8_add_33)))
theorem dX8_waysToChoose_0 : decode cX8_waysToChoose 0 = .ok (.aload_n 0, 1) := by decide +kernel
theorem dX8_waysToChoose_1 : decode cX8_waysToChoose 1 = .ok (.iconst 1, 1) := by decide +kernel
theorem dX8_waysToChoose_2 : decode cX8_waysToChoose 2 = .ok (.iload_n 1, 1) := by decide +kernel
theorem dX8_waysToChoose_3 : decode cX8_waysToChoose 3 = .ok (.ishl, 1) := by decide +kernel
theorem dX8_waysToChoose_4 : decode cX8_waysToChoose 4 = .ok (.iconst 1, 1) := by decide +kernel
theorem dX8_waysToChoose_5 : decode cX8_waysToChoose 5 = .ok (.isub, 1) := by decide +kernel
theorem dX8_waysToChoose_6 : decode cX8_waysToChoose 6 = .ok (.iload_n 1, 1) := by decide +kernel
theorem dX8_waysToChoose_7 : decode cX8_waysToChoose 7 = .ok (.invokevirtual 19, 3) := by decide +kernel
theorem dX8_waysToChoose_10 : decode cX8_waysToChoose 10 = .ok (.istore_n 3, 1) := by decide +kernel
theorem dX8_waysToChoose_11 : decode cX8_waysToChoose 11 = .ok (.iconst 0, 1) := by decide +kernel
theorem dX8_waysToChoose_12 : decode cX8_waysToChoose 12 = .ok (.istore 4, 2) := by decide +kernel
theorem dX8_waysToChoose_14 : decode cX8_waysToChoose 14 = .ok (.iconst 0, 1) := by decide +kernel
theorem dX8_waysToChoose_15 : decode cX8_waysToChoose 15 = .ok (.istore 5, 2) := by decide +kernel
theorem dX8_waysToChoose_17 : decode cX8_waysToChoose 17 = .ok (.iload 5, 2) := by decide +kernel
theorem dX8_waysToChoose_19 : decode cX8_waysToChoose 19 = .ok (.iconst 1, 1) := by decide +kernel
theorem dX8_waysToChoose_20 : decode cX8_waysToChoose 20 = .ok (.aload_n 0, 1) := by decide +kernel
theorem dX8_waysToChoose_21 : decode cX8_waysToChoose 21 = .ok (.getfield 15, 3) := by decide +kernel
theorem dX8_waysToChoose_24 : decode cX8_waysToChoose 24 = .ok (.ishl, 1) := by decide +kernel
theorem dX8_waysToChoose_25 : decode cX8_waysToChoose 25 = .ok (.if_icmp .ge 39, 3) := by decide +kernel
theorem dX8_waysToChoose_28 : decode cX8_waysToChoose 28 = .ok (.iload 5, 2) := by decide +kernel
theorem dX8_waysToChoose_30 : decode cX8_waysToChoose 30 = .ok (.invokestatic 23, 3) := by decide +kernel
theorem dX8_waysToChoose_33 : decode cX8_waysToChoose 33 = .ok (.iload_n 1, 1) := by decide +kernel
theorem dX8_waysToChoose_34 : decode cX8_waysToChoose 34 = .ok (.if_icmp .eq 6, 3) := by decide +kernel
theorem dX8_waysToChoose_37 : decode cX8_waysToChoose 37 = .ok (.goto 21, 3) := by decide +kernel
theorem dX8_waysToChoose_40 : decode cX8_waysToChoose 40 = .ok (.iload_n 2, 1) := by decide +kernel
theorem dX8_waysToChoose_41 : decode cX8_waysToChoose 41 = .ok (.ifCond .eq 14, 3) := by decide +kernel
theorem dX8_waysToChoose_44 : decode cX8_waysToChoose 44 = .ok (.aload_n 0, 1) := by decide +kernel
theorem dX8_waysToChoose_45 : decode cX8_waysToChoose 45 = .ok (.iload 5, 2) := by decide +kernel
theorem dX8_waysToChoose_47 : decode cX8_waysToChoose 47 = .ok (.iload_n 1, 1) := by decide +kernel
theorem dX8_waysToChoose_48 : decode cX8_waysToChoose 48 = .ok (.invokevirtual 19, 3) := by decide +kernel
theorem dX8_waysToChoose_51 : decode cX8_waysToChoose 51 = .ok (.iload_n 3, 1) := by decide +kernel
theorem dX8_waysToChoose_52 : decode cX8_waysToChoose 52 = .ok (.if_icmp .lt 6, 3) := by decide +kernel
theorem dX8_waysToChoose_55 : decode cX8_waysToChoose 55 = .ok (.iinc 4 1, 3) := by decide +kernel
theorem dX8_waysToChoose_58 : decode cX8_waysToChoose 58 = .ok (.iinc 5 1, 3) := by decide +kernel
theorem dX8_waysToChoose_61 : decode cX8_waysToChoose 61 = .ok (.goto (-44), 3) := by decide +kernel
theorem dX8_waysToChoose_64 : decode cX8_waysToChoose 64 = .ok (.iload 4, 2) := by decide +kernel
theorem dX8_waysToChoose_66 : decode cX8_waysToChoose 66 = .ok (.ireturn, 1) := by decide +kernel
theorem cd_72 (G : ZG) (d : Nat) (K : ZKt) (F : ZFt) (hT : zt5 G.2.2.2) : CS G RX8 cX8_waysToChoose 6 d K (some .int) [] (fun _ => []) 0 (bd_72 G.2.2.2 K F) := by
  unfold bd_72
  exact (CS.seq 11 (CS.decI_n (CX.pure (CE.callV (by decide) (CA.ref (CE.aload_n rfl dX8_waysToChoose_0 zhd) (CA.int (CE.isub (CE.ishl (CE.iconst kI_1 dX8_waysToChoose_1 zhd) (CE.iload_n rfl dX8_waysToChoose_2 zhd) dX8_waysToChoose_3 zhd) (CE.iconst kI_1 dX8_waysToChoose_4 zhd) dX8_waysToChoose_5 zhd) (CA.int (CE.iload_n rfl dX8_waysToChoose_6 zhd) CA.nil))) zi_73 cv_X8_19 (fun _ => rfl) dX8_waysToChoose_7 zhd)) rfl (by decide) dX8_waysToChoose_10 zhd)
  (CS.seq 14 (CS.decI (CX.pure (CE.iconst kI_0 dX8_waysToChoose_11 zhd)) (by decide) dX8_waysToChoose_12 zhd)
  (CS.seq 64 (CS.scope (CS.seq 17 (CS.decI (CX.pure (CE.iconst kI_0 dX8_waysToChoose_14 zhd)) (by decide) dX8_waysToChoose_15 zhd)
  (CS.for (T := 28) (F := 64) (pu := 58) (p1 := 61) (kb := 1) (kc := 2) (CD.pure (CC.icmp_lt_F (T := 28) (F := 64) (CE.iload dX8_waysToChoose_17 zhd) (CE.ishl (CE.iconst kI_1 dX8_waysToChoose_19 zhd) (CE.getI (CE.aload_n rfl dX8_waysToChoose_20 zhd) fs_X8_15 dX8_waysToChoose_21 zhd) dX8_waysToChoose_24 zhd) dX8_waysToChoose_25 rfl rfl))
  (CS.seq 40 (CS.ifT (F := 40) (CDT.of (CD.pure (CC.icmp_ne_F (T := 37) (F := 40) (CE.callS (by decide) (CA.int (CE.iload dX8_waysToChoose_28 zhd) CA.nil) zi_217 cs_X8_23 (fun _ => rfl) dX8_waysToChoose_30 zhd) (CE.iload_n rfl dX8_waysToChoose_33 zhd) dX8_waysToChoose_34 rfl rfl)) zhd) (CS.brk (q := 58) dX8_waysToChoose_37 rfl zhd) (CS.brk0 zhd) zhd)
  (CS.if1 (T := 55) (F := 58) (CD.pure (CC.or (CC.not (CC.if_ne_F (T := 44) (F := 55) (CE.iload_n rfl dX8_waysToChoose_40 zhd) dX8_waysToChoose_41 rfl rfl)) (CC.icmp_ge_F (T := 55) (F := 58) (CE.callV (by decide) (CA.ref (CE.aload_n rfl dX8_waysToChoose_44 zhd) (CA.int (CE.iload dX8_waysToChoose_45 zhd) (CA.int (CE.iload_n rfl dX8_waysToChoose_47 zhd) CA.nil))) zi_73 cv_X8_19 (fun _ => rfl) dX8_waysToChoose_48 zhd) (CE.iload_n rfl dX8_waysToChoose_51 zhd) dX8_waysToChoose_52 rfl rfl))) (CS.inc kI_1 (by decide) dX8_waysToChoose_55 zhd) zhd)) (CS.inc kI_1 (by decide) dX8_waysToChoose_58 zhd) dX8_waysToChoose_61 rfl zhd)))
  (CS.retI (CX.pure (CE.iload dX8_waysToChoose_64 zhd)) dX8_waysToChoose_66))))
theorem dX8_offDue_0 : decode cX8_offDue 0 = .ok (.iconst 0, 1) := by decide +kernel
theorem dX8_offDue_1 : decode cX8_offDue 1 = .ok (.istore_n 3, 1) := by decide +kernel
theorem dX8_offDue_2 : decode cX8_offDue 2 = .ok (.iconst 0, 1) := by decide +kernel
theorem dX8_offDue_3 : decode cX8_offDue 3 = .ok (.istore 4, 2) := by decide +kernel
theorem dX8_offDue_5 : decode cX8_offDue 5 = .ok (.iconst 0, 1) := by decide +kernel
theorem dX8_offDue_6 : decode cX8_offDue 6 = .ok (.istore 5, 2) := by decide +kernel
theorem dX8_offDue_8 : decode cX8_offDue 8 = .ok (.iload 5, 2) := by decide +kernel
theorem dX8_offDue_10 : decode cX8_offDue 10 = .ok (.aload_n 0, 1) := by decide +kernel
theorem dX8_offDue_11 : decode cX8_offDue 11 = .ok (.getfield 15, 3) := by decide +kernel
theorem dX8_offDue_14 : decode cX8_offDue 14 = .ok (.if_icmp .ge 40, 3) := by decide +kernel
theorem dX8_offDue_17 : decode cX8_offDue 17 = .ok (.iload 4, 2) := by decide +kernel
theorem dX8_offDue_19 : decode cX8_offDue 19 = .ok (.aload_n 0, 1) := by decide +kernel
theorem dX8_offDue_20 : decode cX8_offDue 20 = .ok (.getfield 9, 3) := by decide +kernel
theorem dX8_offDue_23 : decode cX8_offDue 23 = .ok (.iload 5, 2) := by decide +kernel
theorem dX8_offDue_25 : decode cX8_offDue 25 = .ok (.iaload, 1) := by decide +kernel
theorem dX8_offDue_26 : decode cX8_offDue 26 = .ok (.iadd, 1) := by decide +kernel
theorem dX8_offDue_27 : decode cX8_offDue 27 = .ok (.istore 4, 2) := by decide +kernel
theorem dX8_offDue_29 : decode cX8_offDue 29 = .ok (.iload_n 1, 1) := by decide +kernel
theorem dX8_offDue_30 : decode cX8_offDue 30 = .ok (.iload 5, 2) := by decide +kernel
theorem dX8_offDue_32 : decode cX8_offDue 32 = .ok (.ishr, 1) := by decide +kernel
theorem dX8_offDue_33 : decode cX8_offDue 33 = .ok (.iconst 1, 1) := by decide +kernel
theorem dX8_offDue_34 : decode cX8_offDue 34 = .ok (.iand, 1) := by decide +kernel
theorem dX8_offDue_35 : decode cX8_offDue 35 = .ok (.ifCond .eq 13, 3) := by decide +kernel
theorem dX8_offDue_38 : decode cX8_offDue 38 = .ok (.iload_n 3, 1) := by decide +kernel
theorem dX8_offDue_39 : decode cX8_offDue 39 = .ok (.aload_n 0, 1) := by decide +kernel
theorem dX8_offDue_40 : decode cX8_offDue 40 = .ok (.getfield 9, 3) := by decide +kernel
theorem dX8_offDue_43 : decode cX8_offDue 43 = .ok (.iload 5, 2) := by decide +kernel
theorem dX8_offDue_45 : decode cX8_offDue 45 = .ok (.iaload, 1) := by decide +kernel
theorem dX8_offDue_46 : decode cX8_offDue 46 = .ok (.iadd, 1) := by decide +kernel
theorem dX8_offDue_47 : decode cX8_offDue 47 = .ok (.istore_n 3, 1) := by decide +kernel
theorem dX8_offDue_48 : decode cX8_offDue 48 = .ok (.iinc 5 1, 3) := by decide +kernel
theorem dX8_offDue_51 : decode cX8_offDue 51 = .ok (.goto (-43), 3) := by decide +kernel
theorem dX8_offDue_54 : decode cX8_offDue 54 = .ok (.aload_n 0, 1) := by decide +kernel
theorem dX8_offDue_55 : decode cX8_offDue 55 = .ok (.getfield 15, 3) := by decide +kernel
theorem dX8_offDue_58 : decode cX8_offDue 58 = .ok (.iload_n 3, 1) := by decide +kernel
theorem dX8_offDue_59 : decode cX8_offDue 59 = .ok (.imul, 1) := by decide +kernel
theorem dX8_offDue_60 : decode cX8_offDue 60 = .ok (.iload_n 2, 1) := by decide +kernel
theorem dX8_offDue_61 : decode cX8_offDue 61 = .ok (.iload 4, 2) := by decide +kernel
theorem dX8_offDue_63 : decode cX8_offDue 63 = .ok (.imul, 1) := by decide +kernel
theorem dX8_offDue_64 : decode cX8_offDue 64 = .ok (.isub, 1) := by decide +kernel
theorem dX8_offDue_65 : decode cX8_offDue 65 = .ok (.invokestatic 29, 3) := by decide +kernel
theorem dX8_offDue_68 : decode cX8_offDue 68 = .ok (.ireturn, 1) := by decide +kernel
theorem cd_73 (G : ZG) (d : Nat) (K : ZKt) (F : ZFt) (hT : zt5 G.2.2.2) : CS G RX8 cX8_offDue 6 d K (some .int) [] (fun _ => []) 0 (bd_73 G.2.2.2 K F) := by
  unfold bd_73
  exact (CS.seq 2 (CS.decI_n (CX.pure (CE.iconst kI_0 dX8_offDue_0 zhd)) rfl (by decide) dX8_offDue_1 zhd)
  (CS.seq 5 (CS.decI (CX.pure (CE.iconst kI_0 dX8_offDue_2 zhd)) (by decide) dX8_offDue_3 zhd)
  (CS.seq 54 (CS.scope (CS.seq 8 (CS.decI (CX.pure (CE.iconst kI_0 dX8_offDue_5 zhd)) (by decide) dX8_offDue_6 zhd)
  (CS.whl (T := 17) (F := 54) (p1 := 51) (CD.pure (CC.icmp_lt_F (T := 17) (F := 54) (CE.iload dX8_offDue_8 zhd) (CE.getI (CE.aload_n rfl dX8_offDue_10 zhd) fs_X8_15 dX8_offDue_11 zhd) dX8_offDue_14 rfl rfl))
  (CS.seq 48 (CS.seq 29 (CS.setI (CX.pure (CE.iadd (CE.iload dX8_offDue_17 zhd) (CE.aldI (CE.getR (CE.aload_n rfl dX8_offDue_19 zhd) fs_X8_9 dX8_offDue_20 zhd) (CE.iload dX8_offDue_23 zhd) (Or.inl ⟨rfl, dX8_offDue_25⟩) zhd) dX8_offDue_26 zhd)) (by decide) dX8_offDue_27 zhd)
  (CS.if1 (T := 38) (F := 48) (CD.pure (CC.if_ne_F (T := 38) (F := 48) (CE.iand (CE.ishr (CE.iload_n rfl dX8_offDue_29 zhd) (CE.iload dX8_offDue_30 zhd) dX8_offDue_32 zhd) (CE.iconst kI_1 dX8_offDue_33 zhd) dX8_offDue_34 zhd) dX8_offDue_35 rfl rfl)) (CS.setI_n (CX.pure (CE.iadd (CE.iload_n rfl dX8_offDue_38 zhd) (CE.aldI (CE.getR (CE.aload_n rfl dX8_offDue_39 zhd) fs_X8_9 dX8_offDue_40 zhd) (CE.iload dX8_offDue_43 zhd) (Or.inl ⟨rfl, dX8_offDue_45⟩) zhd) dX8_offDue_46 zhd)) rfl (by decide) dX8_offDue_47 zhd) zhd))
  (CS.inc kI_1 (by decide) dX8_offDue_48 zhd)) dX8_offDue_51 rfl zhd)))
  (CS.retI (CX.pure (CE.mabs (by decide) (CE.isub (CE.imul (CE.getI (CE.aload_n rfl dX8_offDue_54 zhd) fs_X8_15 dX8_offDue_55 zhd) (CE.iload_n rfl dX8_offDue_58 zhd) dX8_offDue_59 zhd) (CE.imul (CE.iload_n rfl dX8_offDue_60 zhd) (CE.iload dX8_offDue_61 zhd) dX8_offDue_63 zhd) dX8_offDue_64 zhd) mm_X8_29 dX8_offDue_65 zhd)) dX8_offDue_68))))
theorem dX8_fold_0 : decode cX8_fold 0 = .ok (.lload_n 1, 1) := by decide +kernel
theorem dX8_fold_1 : decode cX8_fold 1 = .ok (.aload_n 0, 1) := by decide +kernel
theorem dX8_fold_2 : decode cX8_fold 2 = .ok (.getfield 9, 3) := by decide +kernel
theorem dX8_fold_5 : decode cX8_fold 5 = .ok (.aload_n 0, 1) := by decide +kernel
theorem dX8_fold_6 : decode cX8_fold 6 = .ok (.getfield 15, 3) := by decide +kernel
theorem dX8_fold_9 : decode cX8_fold 9 = .ok (.invokestatic 34, 3) := by decide +kernel
theorem dX8_fold_12 : decode cX8_fold 12 = .ok (.lreturn, 1) := by decide +kernel
theorem cd_74 (G : ZG) (d : Nat) (K : ZKt) (F : ZFt) (hT : zt5 G.2.2.2) : CS G RX8 cX8_fold 3 d K (some .long) [] (fun _ => []) 0 (bd_74 G.2.2.2 K F) := by
  unfold bd_74
  exact (CS.retL (CX.pure (CE.callS (by decide) (CA.long (CE.lload_n rfl dX8_fold_0 zhd) (CA.ref (CE.getR (CE.aload_n rfl dX8_fold_1 zhd) fs_X8_9 dX8_fold_2 zhd) (CA.int (CE.getI (CE.aload_n rfl dX8_fold_5 zhd) fs_X8_15 dX8_fold_6 zhd) CA.nil))) zi_133 cs_X8_34 (fun _ => rfl) dX8_fold_9 zhd)) dX8_fold_12)
theorem dX9_addLate_0 : decode cX9_addLate 0 = .ok (.aload_n 0, 1) := by decide +kernel
theorem dX9_addLate_1 : decode cX9_addLate 1 = .ok (.getfield 23, 3) := by decide +kernel
theorem dX9_addLate_4 : decode cX9_addLate 4 = .ok (.iload_n 1, 1) := by decide +kernel
theorem dX9_addLate_5 : decode cX9_addLate 5 = .ok (.iaload, 1) := by decide +kernel
theorem dX9_addLate_6 : decode cX9_addLate 6 = .ok (.istore_n 3, 1) := by decide +kernel
theorem dX9_addLate_7 : decode cX9_addLate 7 = .ok (.iload_n 3, 1) := by decide +kernel
theorem dX9_addLate_8 : decode cX9_addLate 8 = .ok (.bipush 16, 2) := by decide +kernel
theorem dX9_addLate_10 : decode cX9_addLate 10 = .ok (.if_icmp .lt 6, 3) := by decide +kernel
theorem dX9_addLate_13 : decode cX9_addLate 13 = .ok (.bipush (-104), 2) := by decide +kernel
theorem dX9_addLate_15 : decode cX9_addLate 15 = .ok (.ireturn, 1) := by decide +kernel
theorem dX9_addLate_16 : decode cX9_addLate 16 = .ok (.aload_n 0, 1) := by decide +kernel
theorem dX9_addLate_17 : decode cX9_addLate 17 = .ok (.getfield 26, 3) := by decide +kernel
theorem dX9_addLate_20 : decode cX9_addLate 20 = .ok (.iload_n 1, 1) := by decide +kernel
theorem dX9_addLate_21 : decode cX9_addLate 21 = .ok (.aaload, 1) := by decide +kernel
theorem dX9_addLate_22 : decode cX9_addLate 22 = .ok (.iload_n 3, 1) := by decide +kernel
theorem dX9_addLate_23 : decode cX9_addLate 23 = .ok (.iload_n 2, 1) := by decide +kernel
theorem dX9_addLate_24 : decode cX9_addLate 24 = .ok (.iastore, 1) := by decide +kernel
theorem dX9_addLate_25 : decode cX9_addLate 25 = .ok (.aload_n 0, 1) := by decide +kernel
theorem dX9_addLate_26 : decode cX9_addLate 26 = .ok (.getfield 23, 3) := by decide +kernel
theorem dX9_addLate_29 : decode cX9_addLate 29 = .ok (.iload_n 1, 1) := by decide +kernel
theorem dX9_addLate_30 : decode cX9_addLate 30 = .ok (.iload_n 3, 1) := by decide +kernel
theorem dX9_addLate_31 : decode cX9_addLate 31 = .ok (.iconst 1, 1) := by decide +kernel
theorem dX9_addLate_32 : decode cX9_addLate 32 = .ok (.iadd, 1) := by decide +kernel
theorem dX9_addLate_33 : decode cX9_addLate 33 = .ok (.iastore, 1) := by decide +kernel
theorem dX9_addLate_34 : decode cX9_addLate 34 = .ok (.iload_n 3, 1) := by decide +kernel
theorem dX9_addLate_35 : decode cX9_addLate 35 = .ok (.iconst 1, 1) := by decide +kernel
theorem dX9_addLate_36 : decode cX9_addLate 36 = .ok (.iadd, 1) := by decide +kernel
theorem dX9_addLate_37 : decode cX9_addLate 37 = .ok (.ireturn, 1) := by decide +kernel
theorem cd_75 (G : ZG) (d : Nat) (K : ZKt) (F : ZFt) (hT : zt5 G.2.2.2) : CS G RX9 cX9_addLate 4 d K (some .int) [] (fun _ => []) 0 (bd_75 G.2.2.2 K F) := by
  unfold bd_75
  exact (CS.seq 7 (CS.decI_n (CX.pure (CE.aldI (CE.getR (CE.aload_n rfl dX9_addLate_0 zhd) fs_X9_23 dX9_addLate_1 zhd) (CE.iload_n rfl dX9_addLate_4 zhd) (Or.inl ⟨rfl, dX9_addLate_5⟩) zhd)) rfl (by decide) dX9_addLate_6 zhd)
  (CS.seq 16 (CS.if1 (T := 13) (F := 16) (CD.pure (CC.icmp_ge_F (T := 13) (F := 16) (CE.iload_n rfl dX9_addLate_7 zhd) (CE.bipush kB_16 dX9_addLate_8 zhd) dX9_addLate_10 rfl rfl)) (CS.retI (CX.pure (CE.bipush kB_m104 dX9_addLate_13 zhd)) dX9_addLate_15) zhd)
  (CS.seq 25 (CS.st (CE.aldR (CE.getR (CE.aload_n rfl dX9_addLate_16 zhd) fs_X9_26 dX9_addLate_17 zhd) (CE.iload_n rfl dX9_addLate_20 zhd) dX9_addLate_21 zhd) (CX.pure (CE.iload_n rfl dX9_addLate_22 zhd)) (CX.pure (CE.iload_n rfl dX9_addLate_23 zhd)) (Or.inl ⟨rfl, dX9_addLate_24⟩) zhd)
  (CS.seq 34 (CS.st (CE.getR (CE.aload_n rfl dX9_addLate_25 zhd) fs_X9_23 dX9_addLate_26 zhd) (CX.pure (CE.iload_n rfl dX9_addLate_29 zhd)) (CX.pure (CE.iadd (CE.iload_n rfl dX9_addLate_30 zhd) (CE.iconst kI_1 dX9_addLate_31 zhd) dX9_addLate_32 zhd)) (Or.inl ⟨rfl, dX9_addLate_33⟩) zhd)
  (CS.retI (CX.pure (CE.iadd (CE.iload_n rfl dX9_addLate_34 zhd) (CE.iconst kI_1 dX9_addLate_35 zhd) dX9_addLate_36 zhd)) dX9_addLate_37)))))
theorem dX9_daysFor_0 : decode cX9_daysFor 0 = .ok (.aload_n 0, 1) := by decide +kernel
theorem dX9_daysFor_1 : decode cX9_daysFor 1 = .ok (.getfield 23, 3) := by decide +kernel
theorem dX9_daysFor_4 : decode cX9_daysFor 4 = .ok (.iload_n 1, 1) := by decide +kernel
theorem dX9_daysFor_5 : decode cX9_daysFor 5 = .ok (.iaload, 1) := by decide +kernel
theorem dX9_daysFor_6 : decode cX9_daysFor 6 = .ok (.istore_n 3, 1) := by decide +kernel
theorem dX9_daysFor_7 : decode cX9_daysFor 7 = .ok (.iconst (-1), 1) := by decide +kernel
theorem dX9_daysFor_8 : decode cX9_daysFor 8 = .ok (.istore 4, 2) := by decide +kernel
theorem dX9_daysFor_10 : decode cX9_daysFor 10 = .ok (.iconst 0, 1) := by decide +kernel
theorem dX9_daysFor_11 : decode cX9_daysFor 11 = .ok (.istore 5, 2) := by decide +kernel
theorem dX9_daysFor_13 : decode cX9_daysFor 13 = .ok (.iload 5, 2) := by decide +kernel
theorem dX9_daysFor_15 : decode cX9_daysFor 15 = .ok (.iload_n 3, 1) := by decide +kernel
theorem dX9_daysFor_16 : decode cX9_daysFor 16 = .ok (.if_icmp .ge 65, 3) := by decide +kernel
theorem dX9_daysFor_19 : decode cX9_daysFor 19 = .ok (.aload_n 0, 1) := by decide +kernel
theorem dX9_daysFor_20 : decode cX9_daysFor 20 = .ok (.getfield 26, 3) := by decide +kernel
theorem dX9_daysFor_23 : decode cX9_daysFor 23 = .ok (.iload_n 1, 1) := by decide +kernel
theorem dX9_daysFor_24 : decode cX9_daysFor 24 = .ok (.aaload, 1) := by decide +kernel
theorem dX9_daysFor_25 : decode cX9_daysFor 25 = .ok (.iload 5, 2) := by decide +kernel
theorem dX9_daysFor_27 : decode cX9_daysFor 27 = .ok (.iaload, 1) := by decide +kernel
theorem dX9_daysFor_28 : decode cX9_daysFor 28 = .ok (.istore 6, 2) := by decide +kernel
theorem dX9_daysFor_30 : decode cX9_daysFor 30 = .ok (.iload 4, 2) := by decide +kernel
theorem dX9_daysFor_32 : decode cX9_daysFor 32 = .ok (.iconst (-1), 1) := by decide +kernel
theorem dX9_daysFor_33 : decode cX9_daysFor 33 = .ok (.if_icmp .eq 10, 3) := by decide +kernel
theorem dX9_daysFor_36 : decode cX9_daysFor 36 = .ok (.iload 6, 2) := by decide +kernel
theorem dX9_daysFor_38 : decode cX9_daysFor 38 = .ok (.iload 4, 2) := by decide +kernel
theorem dX9_daysFor_40 : decode cX9_daysFor 40 = .ok (.if_icmp .ge 7, 3) := by decide +kernel
theorem dX9_daysFor_43 : decode cX9_daysFor 43 = .ok (.iconst 1, 1) := by decide +kernel
theorem dX9_daysFor_44 : decode cX9_daysFor 44 = .ok (.goto 4, 3) := by decide +kernel
theorem dX9_daysFor_47 : decode cX9_daysFor 47 = .ok (.iconst 0, 1) := by decide +kernel
theorem dX9_daysFor_48 : decode cX9_daysFor 48 = .ok (.istore 7, 2) := by decide +kernel
theorem dX9_daysFor_50 : decode cX9_daysFor 50 = .ok (.iload 7, 2) := by decide +kernel
theorem dX9_daysFor_52 : decode cX9_daysFor 52 = .ok (.ifCond .eq 23, 3) := by decide +kernel
theorem dX9_daysFor_55 : decode cX9_daysFor 55 = .ok (.bipush 100, 2) := by decide +kernel
theorem dX9_daysFor_57 : decode cX9_daysFor 57 = .ok (.aload_n 0, 1) := by decide +kernel
theorem dX9_daysFor_58 : decode cX9_daysFor 58 = .ok (.iload_n 1, 1) := by decide +kernel
theorem dX9_daysFor_59 : decode cX9_daysFor 59 = .ok (.iload 6, 2) := by decide +kernel
theorem dX9_daysFor_61 : decode cX9_daysFor 61 = .ok (.invokevirtual 35, 3) := by decide +kernel
theorem dX9_daysFor_64 : decode cX9_daysFor 64 = .ok (.imul, 1) := by decide +kernel
theorem dX9_daysFor_65 : decode cX9_daysFor 65 = .ok (.iload_n 2, 1) := by decide +kernel
theorem dX9_daysFor_66 : decode cX9_daysFor 66 = .ok (.iload_n 3, 1) := by decide +kernel
theorem dX9_daysFor_67 : decode cX9_daysFor 67 = .ok (.imul, 1) := by decide +kernel
theorem dX9_daysFor_68 : decode cX9_daysFor 68 = .ok (.if_icmp .lt 7, 3) := by decide +kernel
theorem dX9_daysFor_71 : decode cX9_daysFor 71 = .ok (.iload 6, 2) := by decide +kernel
theorem dX9_daysFor_73 : decode cX9_daysFor 73 = .ok (.istore 4, 2) := by decide +kernel
theorem dX9_daysFor_75 : decode cX9_daysFor 75 = .ok (.iinc 5 1, 3) := by decide +kernel
theorem dX9_daysFor_78 : decode cX9_daysFor 78 = .ok (.goto (-65), 3) := by decide +kernel
theorem dX9_daysFor_81 : decode cX9_daysFor 81 = .ok (.iload 4, 2) := by decide +kernel
theorem dX9_daysFor_83 : decode cX9_daysFor 83 = .ok (.ireturn, 1) := by decide +kernel
theorem cd_76 (G : ZG) (d : Nat) (K : ZKt) (F : ZFt) (hT : zt5 G.2.2.2) : CS G RX9 cX9_daysFor 8 d K (some .int) [] (fun _ => []) 0 (bd_76 G.2.2.2 K F) := by
  unfold bd_76
  exact (CS.seq 7 (CS.decI_n (CX.pure (CE.aldI (CE.getR (CE.aload_n rfl dX9_daysFor_0 zhd) fs_X9_23 dX9_daysFor_1 zhd) (CE.iload_n rfl dX9_daysFor_4 zhd) (Or.inl ⟨rfl, dX9_daysFor_5⟩) zhd)) rfl (by decide) dX9_daysFor_6 zhd)
  (CS.seq 10 (CS.decI (CX.pure (CE.iconst kI_m1 dX9_daysFor_7 zhd)) (by decide) dX9_daysFor_8 zhd)
  (CS.seq 81 (CS.scope (CS.seq 13 (CS.decI (CX.pure (CE.iconst kI_0 dX9_daysFor_10 zhd)) (by decide) dX9_daysFor_11 zhd)
  (CS.whl (T := 19) (F := 81) (p1 := 78) (CD.pure (CC.icmp_lt_F (T := 19) (F := 81) (CE.iload dX9_daysFor_13 zhd) (CE.iload_n rfl dX9_daysFor_15 zhd) dX9_daysFor_16 rfl rfl))
  (CS.seq 75 (CS.scope (CS.seq 30 (CS.decI (CX.pure (CE.aldI (CE.aldR (CE.getR (CE.aload_n rfl dX9_daysFor_19 zhd) fs_X9_26 dX9_daysFor_20 zhd) (CE.iload_n rfl dX9_daysFor_23 zhd) dX9_daysFor_24 zhd) (CE.iload dX9_daysFor_25 zhd) (Or.inl ⟨rfl, dX9_daysFor_27⟩) zhd)) (by decide) dX9_daysFor_28 zhd)
  (CS.seq 50 (CS.decI (CX.pure (CE.bool (T := 43) (F := 47) (q := 48) (CC.or (CC.icmp_eq_T (T := 43) (F := 36) (CE.iload dX9_daysFor_30 zhd) (CE.iconst kI_m1 dX9_daysFor_32 zhd) dX9_daysFor_33 rfl rfl) (CC.icmp_lt_F (T := 43) (F := 47) (CE.iload dX9_daysFor_36 zhd) (CE.iload dX9_daysFor_38 zhd) dX9_daysFor_40 rfl rfl)) dX9_daysFor_43 rfl dX9_daysFor_44 rfl zhd dX9_daysFor_47 zhd)) (by decide) dX9_daysFor_48 zhd)
  (CS.if1 (T := 71) (F := 75) (CD.pure (CC.and (CC.if_ne_F (T := 55) (F := 75) (CE.iload dX9_daysFor_50 zhd) dX9_daysFor_52 rfl rfl) (CC.icmp_ge_F (T := 71) (F := 75) (CE.imul (CE.bipush kB_100 dX9_daysFor_55 zhd) (CE.callV (by decide) (CA.ref (CE.aload_n rfl dX9_daysFor_57 zhd) (CA.int (CE.iload_n rfl dX9_daysFor_58 zhd) (CA.int (CE.iload dX9_daysFor_59 zhd) CA.nil))) zi_77 cv_X9_35 (fun _ => rfl) dX9_daysFor_61 zhd) dX9_daysFor_64 zhd) (CE.imul (CE.iload_n rfl dX9_daysFor_65 zhd) (CE.iload_n rfl dX9_daysFor_66 zhd) dX9_daysFor_67 zhd) dX9_daysFor_68 rfl rfl))) (CS.setI (CX.pure (CE.iload dX9_daysFor_71 zhd)) (by decide) dX9_daysFor_73 zhd) zhd))))
  (CS.inc kI_1 (by decide) dX9_daysFor_75 zhd)) dX9_daysFor_78 rfl zhd)))
  (CS.retI (CX.pure (CE.iload dX9_daysFor_81 zhd)) dX9_daysFor_83))))
theorem dX9_comeBy_0 : decode cX9_comeBy 0 = .ok (.iconst 0, 1) := by decide +kernel
theorem dX9_comeBy_1 : decode cX9_comeBy 1 = .ok (.istore_n 3, 1) := by decide +kernel
theorem dX9_comeBy_2 : decode cX9_comeBy 2 = .ok (.iconst 0, 1) := by decide +kernel
theorem dX9_comeBy_3 : decode cX9_comeBy 3 = .ok (.istore 4, 2) := by decide +kernel
theorem dX9_comeBy_5 : decode cX9_comeBy 5 = .ok (.iload 4, 2) := by decide +kernel
theorem dX9_comeBy_7 : decode cX9_comeBy 7 = .ok (.aload_n 0, 1) := by decide +kernel
theorem dX9_comeBy_8 : decode cX9_comeBy 8 = .ok (.getfield 23, 3) := by decide +kernel
theorem dX9_comeBy_11 : decode cX9_comeBy 11 = .ok (.iload_n 1, 1) := by decide +kernel
theorem dX9_comeBy_12 : decode cX9_comeBy 12 = .ok (.iaload, 1) := by decide +kernel
theorem dX9_comeBy_13 : decode cX9_comeBy 13 = .ok (.if_icmp .ge 25, 3) := by decide +kernel
theorem dX9_comeBy_16 : decode cX9_comeBy 16 = .ok (.aload_n 0, 1) := by decide +kernel
theorem dX9_comeBy_17 : decode cX9_comeBy 17 = .ok (.getfield 26, 3) := by decide +kernel
theorem dX9_comeBy_20 : decode cX9_comeBy 20 = .ok (.iload_n 1, 1) := by decide +kernel
theorem dX9_comeBy_21 : decode cX9_comeBy 21 = .ok (.aaload, 1) := by decide +kernel
theorem dX9_comeBy_22 : decode cX9_comeBy 22 = .ok (.iload 4, 2) := by decide +kernel
theorem dX9_comeBy_24 : decode cX9_comeBy 24 = .ok (.iaload, 1) := by decide +kernel
theorem dX9_comeBy_25 : decode cX9_comeBy 25 = .ok (.iload_n 2, 1) := by decide +kernel
theorem dX9_comeBy_26 : decode cX9_comeBy 26 = .ok (.if_icmp .gt 6, 3) := by decide +kernel
theorem dX9_comeBy_29 : decode cX9_comeBy 29 = .ok (.iinc 3 1, 3) := by decide +kernel
theorem dX9_comeBy_32 : decode cX9_comeBy 32 = .ok (.iinc 4 1, 3) := by decide +kernel
theorem dX9_comeBy_35 : decode cX9_comeBy 35 = .ok (.goto (-30), 3) := by decide +kernel
theorem dX9_comeBy_38 : decode cX9_comeBy 38 = .ok (.iload_n 3, 1) := by decide +kernel
theorem dX9_comeBy_39 : decode cX9_comeBy 39 = .ok (.ireturn, 1) := by decide +kernel
theorem cd_77 (G : ZG) (d : Nat) (K : ZKt) (F : ZFt) (hT : zt5 G.2.2.2) : CS G RX9 cX9_comeBy 5 d K (some .int) [] (fun _ => []) 0 (bd_77 G.2.2.2 K F) := by
  unfold bd_77
  exact (CS.seq 2 (CS.decI_n (CX.pure (CE.iconst kI_0 dX9_comeBy_0 zhd)) rfl (by decide) dX9_comeBy_1 zhd)
  (CS.seq 38 (CS.scope (CS.seq 5 (CS.decI (CX.pure (CE.iconst kI_0 dX9_comeBy_2 zhd)) (by decide) dX9_comeBy_3 zhd)
  (CS.whl (T := 16) (F := 38) (p1 := 35) (CD.pure (CC.icmp_lt_F (T := 16) (F := 38) (CE.iload dX9_comeBy_5 zhd) (CE.aldI (CE.getR (CE.aload_n rfl dX9_comeBy_7 zhd) fs_X9_23 dX9_comeBy_8 zhd) (CE.iload_n rfl dX9_comeBy_11 zhd) (Or.inl ⟨rfl, dX9_comeBy_12⟩) zhd) dX9_comeBy_13 rfl rfl))
  (CS.seq 32 (CS.if1 (T := 29) (F := 32) (CD.pure (CC.icmp_le_F (T := 29) (F := 32) (CE.aldI (CE.aldR (CE.getR (CE.aload_n rfl dX9_comeBy_16 zhd) fs_X9_26 dX9_comeBy_17 zhd) (CE.iload_n rfl dX9_comeBy_20 zhd) dX9_comeBy_21 zhd) (CE.iload dX9_comeBy_22 zhd) (Or.inl ⟨rfl, dX9_comeBy_24⟩) zhd) (CE.iload_n rfl dX9_comeBy_25 zhd) dX9_comeBy_26 rfl rfl)) (CS.inc kI_1 (by decide) dX9_comeBy_29 zhd) zhd)
  (CS.inc kI_1 (by decide) dX9_comeBy_32 zhd)) dX9_comeBy_35 rfl zhd)))
  (CS.retI (CX.pure (CE.iload_n rfl dX9_comeBy_38 zhd)) dX9_comeBy_39)))
theorem dX9_fold_0 : decode cX9_fold 0 = .ok (.lload_n 1, 1) := by decide +kernel
theorem dX9_fold_1 : decode cX9_fold 1 = .ok (.lstore_n 3, 1) := by decide +kernel
theorem dX9_fold_2 : decode cX9_fold 2 = .ok (.iconst 0, 1) := by decide +kernel
theorem dX9_fold_3 : decode cX9_fold 3 = .ok (.istore 5, 2) := by decide +kernel
theorem dX9_fold_5 : decode cX9_fold 5 = .ok (.iload 5, 2) := by decide +kernel
theorem dX9_fold_7 : decode cX9_fold 7 = .ok (.iconst 4, 1) := by decide +kernel
theorem dX9_fold_8 : decode cX9_fold 8 = .ok (.if_icmp .ge 87, 3) := by decide +kernel
theorem dX9_fold_11 : decode cX9_fold 11 = .ok (.lload_n 3, 1) := by decide +kernel
theorem dX9_fold_12 : decode cX9_fold 12 = .ok (.aload_n 0, 1) := by decide +kernel
theorem dX9_fold_13 : decode cX9_fold 13 = .ok (.getfield 9, 3) := by decide +kernel
theorem dX9_fold_16 : decode cX9_fold 16 = .ok (.iload 5, 2) := by decide +kernel
theorem dX9_fold_18 : decode cX9_fold 18 = .ok (.iaload, 1) := by decide +kernel
theorem dX9_fold_19 : decode cX9_fold 19 = .ok (.i2l, 1) := by decide +kernel
theorem dX9_fold_20 : decode cX9_fold 20 = .ok (.invokestatic 39, 3) := by decide +kernel
theorem dX9_fold_23 : decode cX9_fold 23 = .ok (.lstore_n 3, 1) := by decide +kernel
theorem dX9_fold_24 : decode cX9_fold 24 = .ok (.iconst 0, 1) := by decide +kernel
theorem dX9_fold_25 : decode cX9_fold 25 = .ok (.istore 6, 2) := by decide +kernel
theorem dX9_fold_27 : decode cX9_fold 27 = .ok (.iload 6, 2) := by decide +kernel
theorem dX9_fold_29 : decode cX9_fold 29 = .ok (.bipush 8, 2) := by decide +kernel
theorem dX9_fold_31 : decode cX9_fold 31 = .ok (.if_icmp .ge 39, 3) := by decide +kernel
theorem dX9_fold_34 : decode cX9_fold 34 = .ok (.lload_n 3, 1) := by decide +kernel
theorem dX9_fold_35 : decode cX9_fold 35 = .ok (.aload_n 0, 1) := by decide +kernel
theorem dX9_fold_36 : decode cX9_fold 36 = .ok (.getfield 17, 3) := by decide +kernel
theorem dX9_fold_39 : decode cX9_fold 39 = .ok (.iload 5, 2) := by decide +kernel
theorem dX9_fold_41 : decode cX9_fold 41 = .ok (.aaload, 1) := by decide +kernel
theorem dX9_fold_42 : decode cX9_fold 42 = .ok (.iload 6, 2) := by decide +kernel
theorem dX9_fold_44 : decode cX9_fold 44 = .ok (.iaload, 1) := by decide +kernel
theorem dX9_fold_45 : decode cX9_fold 45 = .ok (.i2l, 1) := by decide +kernel
theorem dX9_fold_46 : decode cX9_fold 46 = .ok (.invokestatic 39, 3) := by decide +kernel
theorem dX9_fold_49 : decode cX9_fold 49 = .ok (.aload_n 0, 1) := by decide +kernel
theorem dX9_fold_50 : decode cX9_fold 50 = .ok (.getfield 20, 3) := by decide +kernel
theorem dX9_fold_53 : decode cX9_fold 53 = .ok (.iload 5, 2) := by decide +kernel
theorem dX9_fold_55 : decode cX9_fold 55 = .ok (.aaload, 1) := by decide +kernel
theorem dX9_fold_56 : decode cX9_fold 56 = .ok (.iload 6, 2) := by decide +kernel
theorem dX9_fold_58 : decode cX9_fold 58 = .ok (.iaload, 1) := by decide +kernel
theorem dX9_fold_59 : decode cX9_fold 59 = .ok (.i2l, 1) := by decide +kernel
theorem dX9_fold_60 : decode cX9_fold 60 = .ok (.invokestatic 39, 3) := by decide +kernel
theorem dX9_fold_63 : decode cX9_fold 63 = .ok (.lstore_n 3, 1) := by decide +kernel
theorem dX9_fold_64 : decode cX9_fold 64 = .ok (.iinc 6 1, 3) := by decide +kernel
theorem dX9_fold_67 : decode cX9_fold 67 = .ok (.goto (-40), 3) := by decide +kernel
theorem dX9_fold_70 : decode cX9_fold 70 = .ok (.lload_n 3, 1) := by decide +kernel
theorem dX9_fold_71 : decode cX9_fold 71 = .ok (.aload_n 0, 1) := by decide +kernel
theorem dX9_fold_72 : decode cX9_fold 72 = .ok (.getfield 26, 3) := by decide +kernel
theorem dX9_fold_75 : decode cX9_fold 75 = .ok (.iload 5, 2) := by decide +kernel
theorem dX9_fold_77 : decode cX9_fold 77 = .ok (.aaload, 1) := by decide +kernel
theorem dX9_fold_78 : decode cX9_fold 78 = .ok (.aload_n 0, 1) := by decide +kernel
theorem dX9_fold_79 : decode cX9_fold 79 = .ok (.getfield 23, 3) := by decide +kernel
theorem dX9_fold_82 : decode cX9_fold 82 = .ok (.iload 5, 2) := by decide +kernel
theorem dX9_fold_84 : decode cX9_fold 84 = .ok (.iaload, 1) := by decide +kernel
theorem dX9_fold_85 : decode cX9_fold 85 = .ok (.invokestatic 43, 3) := by decide +kernel
theorem dX9_fold_88 : decode cX9_fold 88 = .ok (.lstore_n 3, 1) := by decide +kernel
theorem dX9_fold_89 : decode cX9_fold 89 = .ok (.iinc 5 1, 3) := by decide +kernel
theorem dX9_fold_92 : decode cX9_fold 92 = .ok (.goto (-87), 3) := by decide +kernel
theorem dX9_fold_95 : decode cX9_fold 95 = .ok (.lload_n 3, 1) := by decide +kernel
theorem dX9_fold_96 : decode cX9_fold 96 = .ok (.lreturn, 1) := by decide +kernel
theorem cd_78 (G : ZG) (d : Nat) (K : ZKt) (F : ZFt) (hT : zt5 G.2.2.2) : CS G RX9 cX9_fold 7 d K (some .long) [] (fun _ => []) 0 (bd_78 G.2.2.2 K F) := by
  unfold bd_78
  exact (CS.seq 2 (CS.decL_n (CX.pure (CE.lload_n rfl dX9_fold_0 zhd)) rfl (by decide) dX9_fold_1 zhd)
  (CS.seq 95 (CS.scope (CS.seq 5 (CS.decI (CX.pure (CE.iconst kI_0 dX9_fold_2 zhd)) (by decide) dX9_fold_3 zhd)
  (CS.whl (T := 11) (F := 95) (p1 := 92) (CD.pure (CC.icmp_lt_F (T := 11) (F := 95) (CE.iload dX9_fold_5 zhd) (CE.iconst kI_4 dX9_fold_7 zhd) dX9_fold_8 rfl rfl))
  (CS.seq 89 (CS.seq 24 (CS.setL_n (CX.pure (CE.callS (by decide) (CA.long (CE.lload_n rfl dX9_fold_11 zhd) (CA.long (CE.i2l (CE.aldI (CE.getR (CE.aload_n rfl dX9_fold_12 zhd) fs_X9_9 dX9_fold_13 zhd) (CE.iload dX9_fold_16 zhd) (Or.inl ⟨rfl, dX9_fold_18⟩) zhd) dX9_fold_19 zhd) CA.nil)) zi_132 cs_X9_39 (fun _ => rfl) dX9_fold_20 zhd)) rfl (by decide) dX9_fold_23 zhd)
  (CS.seq 70 (CS.scope (CS.seq 27 (CS.decI (CX.pure (CE.iconst kI_0 dX9_fold_24 zhd)) (by decide) dX9_fold_25 zhd)
  (CS.whl (T := 34) (F := 70) (p1 := 67) (CD.pure (CC.icmp_lt_F (T := 34) (F := 70) (CE.iload dX9_fold_27 zhd) (CE.bipush kB_8 dX9_fold_29 zhd) dX9_fold_31 rfl rfl))
  (CS.seq 64 (CS.setL_n (CX.pure (CE.callS (by decide) (CA.long (CE.callS (by decide) (CA.long (CE.lload_n rfl dX9_fold_34 zhd) (CA.long (CE.i2l (CE.aldI (CE.aldR (CE.getR (CE.aload_n rfl dX9_fold_35 zhd) fs_X9_17 dX9_fold_36 zhd) (CE.iload dX9_fold_39 zhd) dX9_fold_41 zhd) (CE.iload dX9_fold_42 zhd) (Or.inl ⟨rfl, dX9_fold_44⟩) zhd) dX9_fold_45 zhd) CA.nil)) zi_132 cs_X9_39 (fun _ => rfl) dX9_fold_46 zhd) (CA.long (CE.i2l (CE.aldI (CE.aldR (CE.getR (CE.aload_n rfl dX9_fold_49 zhd) fs_X9_20 dX9_fold_50 zhd) (CE.iload dX9_fold_53 zhd) dX9_fold_55 zhd) (CE.iload dX9_fold_56 zhd) (Or.inl ⟨rfl, dX9_fold_58⟩) zhd) dX9_fold_59 zhd) CA.nil)) zi_132 cs_X9_39 (fun _ => rfl) dX9_fold_60 zhd)) rfl (by decide) dX9_fold_63 zhd)
  (CS.inc kI_1 (by decide) dX9_fold_64 zhd)) dX9_fold_67 rfl zhd)))
  (CS.setL_n (CX.pure (CE.callS (by decide) (CA.long (CE.lload_n rfl dX9_fold_70 zhd) (CA.ref (CE.aldR (CE.getR (CE.aload_n rfl dX9_fold_71 zhd) fs_X9_26 dX9_fold_72 zhd) (CE.iload dX9_fold_75 zhd) dX9_fold_77 zhd) (CA.int (CE.aldI (CE.getR (CE.aload_n rfl dX9_fold_78 zhd) fs_X9_23 dX9_fold_79 zhd) (CE.iload dX9_fold_82 zhd) (Or.inl ⟨rfl, dX9_fold_84⟩) zhd) CA.nil))) zi_133 cs_X9_43 (fun _ => rfl) dX9_fold_85 zhd)) rfl (by decide) dX9_fold_88 zhd)))
  (CS.inc kI_1 (by decide) dX9_fold_89 zhd)) dX9_fold_92 rfl zhd)))
  (CS.retL (CX.pure (CE.lload_n rfl dX9_fold_95 zhd)) dX9_fold_96)))
theorem dX10_add_0 : decode cX10_add 0 = .ok (.aload_n 0, 1) := by decide +kernel
theorem dX10_add_1 : decode cX10_add 1 = .ok (.getfield 35, 3) := by decide +kernel
theorem dX10_add_4 : decode cX10_add 4 = .ok (.bipush 24, 2) := by decide +kernel
theorem dX10_add_6 : decode cX10_add 6 = .ok (.if_icmp .lt 6, 3) := by decide +kernel
theorem dX10_add_9 : decode cX10_add 9 = .ok (.bipush (-104), 2) := by decide +kernel
theorem dX10_add_11 : decode cX10_add 11 = .ok (.ireturn, 1) := by decide +kernel
theorem dX10_add_12 : decode cX10_add 12 = .ok (.aload_n 0, 1) := by decide +kernel
theorem dX10_add_13 : decode cX10_add 13 = .ok (.getfield 9, 3) := by decide +kernel
theorem dX10_add_16 : decode cX10_add 16 = .ok (.aload_n 0, 1) := by decide +kernel
theorem dX10_add_17 : decode cX10_add 17 = .ok (.getfield 35, 3) := by decide +kernel
theorem dX10_add_20 : decode cX10_add 20 = .ok (.iload_n 1, 1) := by decide +kernel
theorem dX10_add_21 : decode cX10_add 21 = .ok (.iastore, 1) := by decide +kernel
theorem dX10_add_22 : decode cX10_add 22 = .ok (.aload_n 0, 1) := by decide +kernel
theorem dX10_add_23 : decode cX10_add 23 = .ok (.getfield 15, 3) := by decide +kernel
theorem dX10_add_26 : decode cX10_add 26 = .ok (.aload_n 0, 1) := by decide +kernel
theorem dX10_add_27 : decode cX10_add 27 = .ok (.getfield 35, 3) := by decide +kernel
theorem dX10_add_30 : decode cX10_add 30 = .ok (.iload_n 2, 1) := by decide +kernel
theorem dX10_add_31 : decode cX10_add 31 = .ok (.iastore, 1) := by decide +kernel
theorem dX10_add_32 : decode cX10_add 32 = .ok (.aload_n 0, 1) := by decide +kernel
theorem dX10_add_33 : decode cX10_add 33 = .ok (.getfield 29, 3) := by decide +kernel
theorem dX10_add_36 : decode cX10_add 36 = .ok (.aload_n 0, 1) := by decide +kernel
theorem dX10_add_37 : decode cX10_add 37 = .ok (.getfield 35, 3) := by decide +kernel
theorem dX10_add_40 : decode cX10_add 40 = .ok (.sipush (-1001), 3) := by decide +kernel
theorem dX10_add_43 : decode cX10_add 43 = .ok (.iastore, 1) := by decide +kernel
theorem dX10_add_44 : decode cX10_add 44 = .ok (.aload_n 0, 1) := by decide +kernel
theorem dX10_add_45 : decode cX10_add 45 = .ok (.getfield 32, 3) := by decide +kernel
theorem dX10_add_48 : decode cX10_add 48 = .ok (.aload_n 0, 1) := by decide +kernel
theorem dX10_add_49 : decode cX10_add 49 = .ok (.getfield 35, 3) := by decide +kernel
theorem dX10_add_52 : decode cX10_add 52 = .ok (.sipush (-1001), 3) := by decide +kernel
theorem dX10_add_55 : decode cX10_add 55 = .ok (.iastore, 1) := by decide +kernel
theorem dX10_add_56 : decode cX10_add 56 = .ok (.aload_n 0, 1) := by decide +kernel
theorem dX10_add_57 : decode cX10_add 57 = .ok (.dup, 1) := by decide +kernel
theorem dX10_add_58 : decode cX10_add 58 = .ok (.getfield 35, 3) := by decide +kernel
theorem dX10_add_61 : decode cX10_add 61 = .ok (.dup_x1, 1) := by decide +kernel
theorem dX10_add_62 : decode cX10_add 62 = .ok (.iconst 1, 1) := by decide +kernel
theorem dX10_add_63 : decode cX10_add 63 = .ok (.iadd, 1) := by decide +kernel
theorem dX10_add_64 : decode cX10_add 64 = .ok (.putfield 35, 3) := by decide +kernel
theorem dX10_add_67 : decode cX10_add 67 = .ok (.ireturn, 1) := by decide +kernel
theorem cd_79 (G : ZG) (d : Nat) (K : ZKt) (F : ZFt) (hT : zt5 G.2.2.2) : CS G RX10 cX10_add 3 d K (some .int) [] (fun _ => []) 0 (bd_79 G.2.2.2 K F) := by
  unfold bd_79
  exact (CS.seq 12 (CS.if1 (T := 9) (F := 12) (CD.pure (CC.icmp_ge_F (T := 9) (F := 12) (CE.getI (CE.aload_n rfl dX10_add_0 zhd) fs_X10_35 dX10_add_1 zhd) (CE.bipush kB_24 dX10_add_4 zhd) dX10_add_6 rfl rfl)) (CS.retI (CX.pure (CE.bipush kB_m104 dX10_add_9 zhd)) dX10_add_11) zhd)
  (CS.seq 22 (CS.st (CE.getR (CE.aload_n rfl dX10_add_12 zhd) fs_X10_9 dX10_add_13 zhd) (CX.pure (CE.getI (CE.aload_n rfl dX10_add_16 zhd) fs_X10_35 dX10_add_17 zhd)) (CX.pure (CE.iload_n rfl dX10_add_20 zhd)) (Or.inl ⟨rfl, dX10_add_21⟩) zhd)
  (CS.seq 32 (CS.st (CE.getR (CE.aload_n rfl dX10_add_22 zhd) fs_X10_15 dX10_add_23 zhd) (CX.pure (CE.getI (CE.aload_n rfl dX10_add_26 zhd) fs_X10_35 dX10_add_27 zhd)) (CX.pure (CE.iload_n rfl dX10_add_30 zhd)) (Or.inl ⟨rfl, dX10_add_31⟩) zhd)
  (CS.seq 44 (CS.st (CE.getR (CE.aload_n rfl dX10_add_32 zhd) fs_X10_29 dX10_add_33 zhd) (CX.pure (CE.getI (CE.aload_n rfl dX10_add_36 zhd) fs_X10_35 dX10_add_37 zhd)) (CX.pure (CE.sipush kS_m1001 dX10_add_40 zhd)) (Or.inl ⟨rfl, dX10_add_43⟩) zhd)
  (CS.seq 56 (CS.st (CE.getR (CE.aload_n rfl dX10_add_44 zhd) fs_X10_32 dX10_add_45 zhd) (CX.pure (CE.getI (CE.aload_n rfl dX10_add_48 zhd) fs_X10_35 dX10_add_49 zhd)) (CX.pure (CE.sipush kS_m1001 dX10_add_52 zhd)) (Or.inl ⟨rfl, dX10_add_55⟩) zhd)
  (CS.retI (CX.inc (CE.aload_n rfl dX10_add_56 zhd) dX10_add_57 dX10_add_58 dX10_add_61 dX10_add_62 dX10_add_63 fs_X10_35 fp_X10_35 dX10_add_64 zhd) dX10_add_67))))))
theorem dX10_anyOfPart_0 : decode cX10_anyOfPart 0 = .ok (.iconst 0, 1) := by decide +kernel
theorem dX10_anyOfPart_1 : decode cX10_anyOfPart 1 = .ok (.istore_n 2, 1) := by decide +kernel
theorem dX10_anyOfPart_2 : decode cX10_anyOfPart 2 = .ok (.iload_n 2, 1) := by decide +kernel
theorem dX10_anyOfPart_3 : decode cX10_anyOfPart 3 = .ok (.aload_n 0, 1) := by decide +kernel
theorem dX10_anyOfPart_4 : decode cX10_anyOfPart 4 = .ok (.getfield 35, 3) := by decide +kernel
theorem dX10_anyOfPart_7 : decode cX10_anyOfPart 7 = .ok (.if_icmp .ge 21, 3) := by decide +kernel
theorem dX10_anyOfPart_10 : decode cX10_anyOfPart 10 = .ok (.aload_n 0, 1) := by decide +kernel
theorem dX10_anyOfPart_11 : decode cX10_anyOfPart 11 = .ok (.getfield 9, 3) := by decide +kernel
theorem dX10_anyOfPart_14 : decode cX10_anyOfPart 14 = .ok (.iload_n 2, 1) := by decide +kernel
theorem dX10_anyOfPart_15 : decode cX10_anyOfPart 15 = .ok (.iaload, 1) := by decide +kernel
theorem dX10_anyOfPart_16 : decode cX10_anyOfPart 16 = .ok (.iload_n 1, 1) := by decide +kernel
theorem dX10_anyOfPart_17 : decode cX10_anyOfPart 17 = .ok (.if_icmp .ne 5, 3) := by decide +kernel
theorem dX10_anyOfPart_20 : decode cX10_anyOfPart 20 = .ok (.iconst 1, 1) := by decide +kernel
theorem dX10_anyOfPart_21 : decode cX10_anyOfPart 21 = .ok (.ireturn, 1) := by decide +kernel
theorem dX10_anyOfPart_22 : decode cX10_anyOfPart 22 = .ok (.iinc 2 1, 3) := by decide +kernel
theorem dX10_anyOfPart_25 : decode cX10_anyOfPart 25 = .ok (.goto (-23), 3) := by decide +kernel
theorem dX10_anyOfPart_28 : decode cX10_anyOfPart 28 = .ok (.iconst 0, 1) := by decide +kernel
theorem dX10_anyOfPart_29 : decode cX10_anyOfPart 29 = .ok (.ireturn, 1) := by decide +kernel
theorem cd_80 (G : ZG) (d : Nat) (K : ZKt) (F : ZFt) (hT : zt5 G.2.2.2) : CS G RX10 cX10_anyOfPart 3 d K (some .boolean) [] (fun _ => []) 0 (bd_80 G.2.2.2 K F) := by
  unfold bd_80
  exact (CS.seq 28 (CS.scope (CS.seq 2 (CS.decI_n (CX.pure (CE.iconst kI_0 dX10_anyOfPart_0 zhd)) rfl (by decide) dX10_anyOfPart_1 zhd)
  (CS.whl (T := 10) (F := 28) (p1 := 25) (CD.pure (CC.icmp_lt_F (T := 10) (F := 28) (CE.iload_n rfl dX10_anyOfPart_2 zhd) (CE.getI (CE.aload_n rfl dX10_anyOfPart_3 zhd) fs_X10_35 dX10_anyOfPart_4 zhd) dX10_anyOfPart_7 rfl rfl))
  (CS.seq 22 (CS.if1 (T := 20) (F := 22) (CD.pure (CC.icmp_eq_F (T := 20) (F := 22) (CE.aldI (CE.getR (CE.aload_n rfl dX10_anyOfPart_10 zhd) fs_X10_9 dX10_anyOfPart_11 zhd) (CE.iload_n rfl dX10_anyOfPart_14 zhd) (Or.inl ⟨rfl, dX10_anyOfPart_15⟩) zhd) (CE.iload_n rfl dX10_anyOfPart_16 zhd) dX10_anyOfPart_17 rfl rfl)) (CS.retZ (CX.pure (CE.iconst kI_1 dX10_anyOfPart_20 zhd)) dX10_anyOfPart_21) zhd)
  (CS.inc kI_1 (by decide) dX10_anyOfPart_22 zhd)) dX10_anyOfPart_25 rfl zhd)))
  (CS.retZ (CX.pure (CE.iconst kI_0 dX10_anyOfPart_28 zhd)) dX10_anyOfPart_29))
theorem dX10_isKnown_0 : decode cX10_isKnown 0 = .ok (.aload_n 0, 1) := by decide +kernel
theorem dX10_isKnown_1 : decode cX10_isKnown 1 = .ok (.getfield 29, 3) := by decide +kernel
theorem dX10_isKnown_4 : decode cX10_isKnown 4 = .ok (.iload_n 1, 1) := by decide +kernel
theorem dX10_isKnown_5 : decode cX10_isKnown 5 = .ok (.iaload, 1) := by decide +kernel
theorem dX10_isKnown_6 : decode cX10_isKnown 6 = .ok (.sipush (-1001), 3) := by decide +kernel
theorem dX10_isKnown_9 : decode cX10_isKnown 9 = .ok (.if_icmp .le 7, 3) := by decide +kernel
theorem dX10_isKnown_12 : decode cX10_isKnown 12 = .ok (.iconst 1, 1) := by decide +kernel
theorem dX10_isKnown_13 : decode cX10_isKnown 13 = .ok (.goto 4, 3) := by decide +kernel
theorem dX10_isKnown_16 : decode cX10_isKnown 16 = .ok (.iconst 0, 1) := by decide +kernel
theorem dX10_isKnown_17 : decode cX10_isKnown 17 = .ok (.ireturn, 1) := by decide +kernel
theorem cd_81 (G : ZG) (d : Nat) (K : ZKt) (F : ZFt) (hT : zt5 G.2.2.2) : CS G RX10 cX10_isKnown 2 d K (some .boolean) [] (fun _ => []) 0 (bd_81 G.2.2.2 K F) := by
  unfold bd_81
  exact (CS.retZ (CX.pure (CE.bool (T := 12) (F := 16) (q := 17) (CC.icmp_gt_F (T := 12) (F := 16) (CE.aldI (CE.getR (CE.aload_n rfl dX10_isKnown_0 zhd) fs_X10_29 dX10_isKnown_1 zhd) (CE.iload_n rfl dX10_isKnown_4 zhd) (Or.inl ⟨rfl, dX10_isKnown_5⟩) zhd) (CE.sipush kS_m1001 dX10_isKnown_6 zhd) dX10_isKnown_9 rfl rfl) dX10_isKnown_12 rfl dX10_isKnown_13 rfl zhd dX10_isKnown_16 zhd)) dX10_isKnown_17)
theorem dX10_addMeasure_0 : decode cX10_addMeasure 0 = .ok (.aload_n 0, 1) := by decide +kernel
theorem dX10_addMeasure_1 : decode cX10_addMeasure 1 = .ok (.getfield 18, 3) := by decide +kernel
theorem dX10_addMeasure_4 : decode cX10_addMeasure 4 = .ok (.iload_n 1, 1) := by decide +kernel
theorem dX10_addMeasure_5 : decode cX10_addMeasure 5 = .ok (.iaload, 1) := by decide +kernel
theorem dX10_addMeasure_6 : decode cX10_addMeasure 6 = .ok (.istore 4, 2) := by decide +kernel
theorem dX10_addMeasure_8 : decode cX10_addMeasure 8 = .ok (.iload 4, 2) := by decide +kernel
theorem dX10_addMeasure_10 : decode cX10_addMeasure 10 = .ok (.iconst 3, 1) := by decide +kernel
theorem dX10_addMeasure_11 : decode cX10_addMeasure 11 = .ok (.if_icmp .lt 6, 3) := by decide +kernel
theorem dX10_addMeasure_14 : decode cX10_addMeasure 14 = .ok (.bipush (-104), 2) := by decide +kernel
theorem dX10_addMeasure_16 : decode cX10_addMeasure 16 = .ok (.ireturn, 1) := by decide +kernel
theorem dX10_addMeasure_17 : decode cX10_addMeasure 17 = .ok (.aload_n 0, 1) := by decide +kernel
theorem dX10_addMeasure_18 : decode cX10_addMeasure 18 = .ok (.getfield 23, 3) := by decide +kernel
theorem dX10_addMeasure_21 : decode cX10_addMeasure 21 = .ok (.iload_n 1, 1) := by decide +kernel
theorem dX10_addMeasure_22 : decode cX10_addMeasure 22 = .ok (.aaload, 1) := by decide +kernel
theorem dX10_addMeasure_23 : decode cX10_addMeasure 23 = .ok (.iload 4, 2) := by decide +kernel
theorem dX10_addMeasure_25 : decode cX10_addMeasure 25 = .ok (.iload_n 2, 1) := by decide +kernel
theorem dX10_addMeasure_26 : decode cX10_addMeasure 26 = .ok (.iastore, 1) := by decide +kernel
theorem dX10_addMeasure_27 : decode cX10_addMeasure 27 = .ok (.aload_n 0, 1) := by decide +kernel
theorem dX10_addMeasure_28 : decode cX10_addMeasure 28 = .ok (.getfield 26, 3) := by decide +kernel
theorem dX10_addMeasure_31 : decode cX10_addMeasure 31 = .ok (.iload_n 1, 1) := by decide +kernel
theorem dX10_addMeasure_32 : decode cX10_addMeasure 32 = .ok (.aaload, 1) := by decide +kernel
theorem dX10_addMeasure_33 : decode cX10_addMeasure 33 = .ok (.iload 4, 2) := by decide +kernel
theorem dX10_addMeasure_35 : decode cX10_addMeasure 35 = .ok (.iload_n 3, 1) := by decide +kernel
theorem dX10_addMeasure_36 : decode cX10_addMeasure 36 = .ok (.iastore, 1) := by decide +kernel
theorem dX10_addMeasure_37 : decode cX10_addMeasure 37 = .ok (.aload_n 0, 1) := by decide +kernel
theorem dX10_addMeasure_38 : decode cX10_addMeasure 38 = .ok (.getfield 18, 3) := by decide +kernel
theorem dX10_addMeasure_41 : decode cX10_addMeasure 41 = .ok (.iload_n 1, 1) := by decide +kernel
theorem dX10_addMeasure_42 : decode cX10_addMeasure 42 = .ok (.iload 4, 2) := by decide +kernel
theorem dX10_addMeasure_44 : decode cX10_addMeasure 44 = .ok (.iconst 1, 1) := by decide +kernel
theorem dX10_addMeasure_45 : decode cX10_addMeasure 45 = .ok (.iadd, 1) := by decide +kernel
theorem dX10_addMeasure_46 : decode cX10_addMeasure 46 = .ok (.iastore, 1) := by decide +kernel
theorem dX10_addMeasure_47 : decode cX10_addMeasure 47 = .ok (.aload_n 0, 1) := by decide +kernel
theorem dX10_addMeasure_48 : decode cX10_addMeasure 48 = .ok (.dup, 1) := by decide +kernel
theorem dX10_addMeasure_49 : decode cX10_addMeasure 49 = .ok (.getfield 39, 3) := by decide +kernel
theorem dX10_addMeasure_52 : decode cX10_addMeasure 52 = .ok (.iconst 1, 1) := by decide +kernel
theorem dX10_addMeasure_53 : decode cX10_addMeasure 53 = .ok (.iadd, 1) := by decide +kernel
theorem dX10_addMeasure_54 : decode cX10_addMeasure 54 = .ok (.putfield 39, 3) := by decide +kernel
theorem dX10_addMeasure_57 : decode cX10_addMeasure 57 = .ok (.aload_n 0, 1) := by decide +kernel
theorem dX10_addMeasure_58 : decode cX10_addMeasure 58 = .ok (.iload_n 1, 1) := by decide +kernel
theorem dX10_addMeasure_59 : decode cX10_addMeasure 59 = .ok (.invokevirtual 42, 3) := by decide +kernel
theorem dX10_addMeasure_62 : decode cX10_addMeasure 62 = .ok (.iload 4, 2) := by decide +kernel
theorem dX10_addMeasure_64 : decode cX10_addMeasure 64 = .ok (.iconst 1, 1) := by decide +kernel
theorem dX10_addMeasure_65 : decode cX10_addMeasure 65 = .ok (.iadd, 1) := by decide +kernel
theorem dX10_addMeasure_66 : decode cX10_addMeasure 66 = .ok (.ireturn, 1) := by decide +kernel
theorem cd_82 (G : ZG) (d : Nat) (K : ZKt) (F : ZFt) (hT : zt5 G.2.2.2) : CS G RX10 cX10_addMeasure 5 d K (some .int) [] (fun _ => []) 0 (bd_82 G.2.2.2 K F) := by
  unfold bd_82
  exact (CS.seq 8 (CS.decI (CX.pure (CE.aldI (CE.getR (CE.aload_n rfl dX10_addMeasure_0 zhd) fs_X10_18 dX10_addMeasure_1 zhd) (CE.iload_n rfl dX10_addMeasure_4 zhd) (Or.inl ⟨rfl, dX10_addMeasure_5⟩) zhd)) (by decide) dX10_addMeasure_6 zhd)
  (CS.seq 17 (CS.if1 (T := 14) (F := 17) (CD.pure (CC.icmp_ge_F (T := 14) (F := 17) (CE.iload dX10_addMeasure_8 zhd) (CE.iconst kI_3 dX10_addMeasure_10 zhd) dX10_addMeasure_11 rfl rfl)) (CS.retI (CX.pure (CE.bipush kB_m104 dX10_addMeasure_14 zhd)) dX10_addMeasure_16) zhd)
  (CS.seq 27 (CS.st (CE.aldR (CE.getR (CE.aload_n rfl dX10_addMeasure_17 zhd) fs_X10_23 dX10_addMeasure_18 zhd) (CE.iload_n rfl dX10_addMeasure_21 zhd) dX10_addMeasure_22 zhd) (CX.pure (CE.iload dX10_addMeasure_23 zhd)) (CX.pure (CE.iload_n rfl dX10_addMeasure_25 zhd)) (Or.inl ⟨rfl, dX10_addMeasure_26⟩) zhd)
  (CS.seq 37 (CS.st (CE.aldR (CE.getR (CE.aload_n rfl dX10_addMeasure_27 zhd) fs_X10_26 dX10_addMeasure_28 zhd) (CE.iload_n rfl dX10_addMeasure_31 zhd) dX10_addMeasure_32 zhd) (CX.pure (CE.iload dX10_addMeasure_33 zhd)) (CX.pure (CE.iload_n rfl dX10_addMeasure_35 zhd)) (Or.inl ⟨rfl, dX10_addMeasure_36⟩) zhd)
  (CS.seq 47 (CS.st (CE.getR (CE.aload_n rfl dX10_addMeasure_37 zhd) fs_X10_18 dX10_addMeasure_38 zhd) (CX.pure (CE.iload_n rfl dX10_addMeasure_41 zhd)) (CX.pure (CE.iadd (CE.iload dX10_addMeasure_42 zhd) (CE.iconst kI_1 dX10_addMeasure_44 zhd) dX10_addMeasure_45 zhd)) (Or.inl ⟨rfl, dX10_addMeasure_46⟩) zhd)
  (CS.seq 57 (CS.upd (CE.aload_n rfl dX10_addMeasure_47 zhd) dX10_addMeasure_48 dX10_addMeasure_49 (CE.iconst kI_1 dX10_addMeasure_52 zhd) (Or.inl ⟨rfl, dX10_addMeasure_53⟩) fs_X10_39 fp_X10_39 dX10_addMeasure_54 zhd)
  (CS.seq 62 (CS.callV (CA.ref (CE.aload_n rfl dX10_addMeasure_57 zhd) (CA.int (CE.iload_n rfl dX10_addMeasure_58 zhd) CA.nil)) zi_83 cv_X10_42 (fun _ => rfl) dX10_addMeasure_59 zhd)
  (CS.retI (CX.pure (CE.iadd (CE.iload dX10_addMeasure_62 zhd) (CE.iconst kI_1 dX10_addMeasure_64 zhd) dX10_addMeasure_65 zhd)) dX10_addMeasure_66))))))))
theorem dX10_settle_0 : decode cX10_settle 0 = .ok (.aload_n 0, 1) := by decide +kernel
theorem dX10_settle_1 : decode cX10_settle 1 = .ok (.iload_n 1, 1) := by decide +kernel
theorem dX10_settle_2 : decode cX10_settle 2 = .ok (.invokevirtual 46, 3) := by decide +kernel
theorem dX10_settle_5 : decode cX10_settle 5 = .ok (.istore_n 2, 1) := by decide +kernel
theorem dX10_settle_6 : decode cX10_settle 6 = .ok (.aload_n 0, 1) := by decide +kernel
theorem dX10_settle_7 : decode cX10_settle 7 = .ok (.getfield 29, 3) := by decide +kernel
theorem dX10_settle_10 : decode cX10_settle 10 = .ok (.iload_n 1, 1) := by decide +kernel
theorem dX10_settle_11 : decode cX10_settle 11 = .ok (.iload_n 2, 1) := by decide +kernel
theorem dX10_settle_12 : decode cX10_settle 12 = .ok (.ifCond .ne 9, 3) := by decide +kernel
theorem dX10_settle_15 : decode cX10_settle 15 = .ok (.sipush (-1002), 3) := by decide +kernel
theorem dX10_settle_18 : decode cX10_settle 18 = .ok (.goto 9, 3) := by decide +kernel
theorem dX10_settle_21 : decode cX10_settle 21 = .ok (.aload_n 0, 1) := by decide +kernel
theorem dX10_settle_22 : decode cX10_settle 22 = .ok (.iload_n 1, 1) := by decide +kernel
theorem dX10_settle_23 : decode cX10_settle 23 = .ok (.iload_n 2, 1) := by decide +kernel
theorem dX10_settle_24 : decode cX10_settle 24 = .ok (.invokevirtual 50, 3) := by decide +kernel
theorem dX10_settle_27 : decode cX10_settle 27 = .ok (.iastore, 1) := by decide +kernel
theorem dX10_settle_28 : decode cX10_settle 28 = .ok (.aload_n 0, 1) := by decide +kernel
theorem dX10_settle_29 : decode cX10_settle 29 = .ok (.getfield 32, 3) := by decide +kernel
theorem dX10_settle_32 : decode cX10_settle 32 = .ok (.iload_n 1, 1) := by decide +kernel
theorem dX10_settle_33 : decode cX10_settle 33 = .ok (.iload_n 2, 1) := by decide +kernel
theorem dX10_settle_34 : decode cX10_settle 34 = .ok (.ifCond .ne 9, 3) := by decide +kernel
theorem dX10_settle_37 : decode cX10_settle 37 = .ok (.sipush (-1002), 3) := by decide +kernel
theorem dX10_settle_40 : decode cX10_settle 40 = .ok (.goto 9, 3) := by decide +kernel
theorem dX10_settle_43 : decode cX10_settle 43 = .ok (.aload_n 0, 1) := by decide +kernel
theorem dX10_settle_44 : decode cX10_settle 44 = .ok (.iload_n 1, 1) := by decide +kernel
theorem dX10_settle_45 : decode cX10_settle 45 = .ok (.iload_n 2, 1) := by decide +kernel
theorem dX10_settle_46 : decode cX10_settle 46 = .ok (.invokevirtual 54, 3) := by decide +kernel
theorem dX10_settle_49 : decode cX10_settle 49 = .ok (.iastore, 1) := by decide +kernel
theorem dX10_settle_50 : decode cX10_settle 50 = .ok (.return_, 1) := by decide +kernel
theorem cd_83 (G : ZG) (d : Nat) (K : ZKt) (F : ZFt) (hT : zt5 G.2.2.2) : CS G RX10 cX10_settle 3 d K (none) [] (fun _ => []) 0 (bd_83 G.2.2.2 K F) := by
  unfold bd_83
  exact (CS.seq 50 (CS.seq 6 (CS.decI_n (CX.pure (CE.callV (by decide) (CA.ref (CE.aload_n rfl dX10_settle_0 zhd) (CA.int (CE.iload_n rfl dX10_settle_1 zhd) CA.nil)) zi_84 cv_X10_46 (fun _ => rfl) dX10_settle_2 zhd)) rfl (by decide) dX10_settle_5 zhd)
  (CS.seq 28 (CS.st (CE.getR (CE.aload_n rfl dX10_settle_6 zhd) fs_X10_29 dX10_settle_7 zhd) (CX.pure (CE.iload_n rfl dX10_settle_10 zhd)) (CX.pure (CE.tern (T := 15) (F := 21) (p1 := 18) (q := 27) (CC.if_eq_F (T := 15) (F := 21) (CE.iload_n rfl dX10_settle_11 zhd) dX10_settle_12 rfl rfl) (CE.sipush kS_m1002 dX10_settle_15 zhd) zex2 dX10_settle_18 rfl zhd (CE.callV (by decide) (CA.ref (CE.aload_n rfl dX10_settle_21 zhd) (CA.int (CE.iload_n rfl dX10_settle_22 zhd) (CA.int (CE.iload_n rfl dX10_settle_23 zhd) CA.nil))) zi_86 cv_X10_50 (fun _ => rfl) dX10_settle_24 zhd))) (Or.inl ⟨rfl, dX10_settle_27⟩) zhd)
  (CS.st (CE.getR (CE.aload_n rfl dX10_settle_28 zhd) fs_X10_32 dX10_settle_29 zhd) (CX.pure (CE.iload_n rfl dX10_settle_32 zhd)) (CX.pure (CE.tern (T := 37) (F := 43) (p1 := 40) (q := 49) (CC.if_eq_F (T := 37) (F := 43) (CE.iload_n rfl dX10_settle_33 zhd) dX10_settle_34 rfl rfl) (CE.sipush kS_m1002 dX10_settle_37 zhd) zex2 dX10_settle_40 rfl zhd (CE.callV (by decide) (CA.ref (CE.aload_n rfl dX10_settle_43 zhd) (CA.int (CE.iload_n rfl dX10_settle_44 zhd) (CA.int (CE.iload_n rfl dX10_settle_45 zhd) CA.nil))) zi_87 cv_X10_54 (fun _ => rfl) dX10_settle_46 zhd))) (Or.inl ⟨rfl, dX10_settle_49⟩) zhd)))
  (CS.retV dX10_settle_50))
theorem dX10_believed_0 : decode cX10_believed 0 = .ok (.iconst 1, 1) := by decide +kernel
theorem dX10_believed_1 : decode cX10_believed 1 = .ok (.aload_n 0, 1) := by decide +kernel
theorem dX10_believed_2 : decode cX10_believed 2 = .ok (.getfield 18, 3) := by decide +kernel
theorem dX10_believed_5 : decode cX10_believed 5 = .ok (.iload_n 1, 1) := by decide +kernel
theorem dX10_believed_6 : decode cX10_believed 6 = .ok (.iaload, 1) := by decide +kernel
theorem dX10_believed_7 : decode cX10_believed 7 = .ok (.ishl, 1) := by decide +kernel
theorem dX10_believed_8 : decode cX10_believed 8 = .ok (.iconst 1, 1) := by decide +kernel
theorem dX10_believed_9 : decode cX10_believed 9 = .ok (.isub, 1) := by decide +kernel
theorem dX10_believed_10 : decode cX10_believed 10 = .ok (.istore_n 2, 1) := by decide +kernel
theorem dX10_believed_11 : decode cX10_believed 11 = .ok (.aload_n 0, 1) := by decide +kernel
theorem dX10_believed_12 : decode cX10_believed 12 = .ok (.iload_n 1, 1) := by decide +kernel
theorem dX10_believed_13 : decode cX10_believed 13 = .ok (.iload_n 2, 1) := by decide +kernel
theorem dX10_believed_14 : decode cX10_believed 14 = .ok (.invokevirtual 57, 3) := by decide +kernel
theorem dX10_believed_17 : decode cX10_believed 17 = .ok (.ifCond .eq 5, 3) := by decide +kernel
theorem dX10_believed_20 : decode cX10_believed 20 = .ok (.iload_n 2, 1) := by decide +kernel
theorem dX10_believed_21 : decode cX10_believed 21 = .ok (.ireturn, 1) := by decide +kernel
theorem dX10_believed_22 : decode cX10_believed 22 = .ok (.aload_n 0, 1) := by decide +kernel
theorem dX10_believed_23 : decode cX10_believed 23 = .ok (.getfield 18, 3) := by decide +kernel
theorem dX10_believed_26 : decode cX10_believed 26 = .ok (.iload_n 1, 1) := by decide +kernel
theorem dX10_believed_27 : decode cX10_believed 27 = .ok (.iaload, 1) := by decide +kernel
theorem dX10_believed_28 : decode cX10_believed 28 = .ok (.iconst 3, 1) := by decide +kernel
theorem dX10_believed_29 : decode cX10_believed 29 = .ok (.if_icmp .ge 5, 3) := by decide +kernel
theorem dX10_believed_32 : decode cX10_believed 32 = .ok (.iconst 0, 1) := by decide +kernel
theorem dX10_believed_33 : decode cX10_believed 33 = .ok (.ireturn, 1) := by decide +kernel
theorem dX10_believed_34 : decode cX10_believed 34 = .ok (.aload_n 0, 1) := by decide +kernel
theorem dX10_believed_35 : decode cX10_believed 35 = .ok (.iload_n 1, 1) := by decide +kernel
theorem dX10_believed_36 : decode cX10_believed 36 = .ok (.iconst 3, 1) := by decide +kernel
theorem dX10_believed_37 : decode cX10_believed 37 = .ok (.invokevirtual 57, 3) := by decide +kernel
theorem dX10_believed_40 : decode cX10_believed 40 = .ok (.ifCond .eq 5, 3) := by decide +kernel
theorem dX10_believed_43 : decode cX10_believed 43 = .ok (.iconst 3, 1) := by decide +kernel
theorem dX10_believed_44 : decode cX10_believed 44 = .ok (.ireturn, 1) := by decide +kernel
theorem dX10_believed_45 : decode cX10_believed 45 = .ok (.aload_n 0, 1) := by decide +kernel
theorem dX10_believed_46 : decode cX10_believed 46 = .ok (.iload_n 1, 1) := by decide +kernel
theorem dX10_believed_47 : decode cX10_believed 47 = .ok (.iconst 5, 1) := by decide +kernel
theorem dX10_believed_48 : decode cX10_believed 48 = .ok (.invokevirtual 57, 3) := by decide +kernel
theorem dX10_believed_51 : decode cX10_believed 51 = .ok (.ifCond .eq 5, 3) := by decide +kernel
theorem dX10_believed_54 : decode cX10_believed 54 = .ok (.iconst 5, 1) := by decide +kernel
theorem dX10_believed_55 : decode cX10_believed 55 = .ok (.ireturn, 1) := by decide +kernel
theorem dX10_believed_56 : decode cX10_believed 56 = .ok (.aload_n 0, 1) := by decide +kernel
theorem dX10_believed_57 : decode cX10_believed 57 = .ok (.iload_n 1, 1) := by decide +kernel
theorem dX10_believed_58 : decode cX10_believed 58 = .ok (.bipush 6, 2) := by decide +kernel
theorem dX10_believed_60 : decode cX10_believed 60 = .ok (.invokevirtual 57, 3) := by decide +kernel
theorem dX10_believed_63 : decode cX10_believed 63 = .ok (.ifCond .eq 8, 3) := by decide +kernel
theorem dX10_believed_66 : decode cX10_believed 66 = .ok (.bipush 6, 2) := by decide +kernel
theorem dX10_believed_68 : decode cX10_believed 68 = .ok (.goto 4, 3) := by decide +kernel
theorem dX10_believed_71 : decode cX10_believed 71 = .ok (.iconst 0, 1) := by decide +kernel
theorem dX10_believed_72 : decode cX10_believed 72 = .ok (.ireturn, 1) := by decide +kernel
theorem cd_84 (G : ZG) (d : Nat) (K : ZKt) (F : ZFt) (hT : zt5 G.2.2.2) : CS G RX10 cX10_believed 3 d K (some .int) [] (fun _ => []) 0 (bd_84 G.2.2.2 K F) := by
  unfold bd_84
  exact (CS.seq 11 (CS.decI_n (CX.pure (CE.isub (CE.ishl (CE.iconst kI_1 dX10_believed_0 zhd) (CE.aldI (CE.getR (CE.aload_n rfl dX10_believed_1 zhd) fs_X10_18 dX10_believed_2 zhd) (CE.iload_n rfl dX10_believed_5 zhd) (Or.inl ⟨rfl, dX10_believed_6⟩) zhd) dX10_believed_7 zhd) (CE.iconst kI_1 dX10_believed_8 zhd) dX10_believed_9 zhd)) rfl (by decide) dX10_believed_10 zhd)
  (CS.seq 22 (CS.if1 (T := 20) (F := 22) (CD.pure (CC.if_ne_F (T := 20) (F := 22) (CE.callV (by decide) (CA.ref (CE.aload_n rfl dX10_believed_11 zhd) (CA.int (CE.iload_n rfl dX10_believed_12 zhd) (CA.int (CE.iload_n rfl dX10_believed_13 zhd) CA.nil))) zi_85 cv_X10_57 (fun _ => rfl) dX10_believed_14 zhd) dX10_believed_17 rfl rfl)) (CS.retI (CX.pure (CE.iload_n rfl dX10_believed_20 zhd)) dX10_believed_21) zhd)
  (CS.seq 34 (CS.if1 (T := 32) (F := 34) (CD.pure (CC.icmp_lt_F (T := 32) (F := 34) (CE.aldI (CE.getR (CE.aload_n rfl dX10_believed_22 zhd) fs_X10_18 dX10_believed_23 zhd) (CE.iload_n rfl dX10_believed_26 zhd) (Or.inl ⟨rfl, dX10_believed_27⟩) zhd) (CE.iconst kI_3 dX10_believed_28 zhd) dX10_believed_29 rfl rfl)) (CS.retI (CX.pure (CE.iconst kI_0 dX10_believed_32 zhd)) dX10_believed_33) zhd)
  (CS.seq 45 (CS.if1 (T := 43) (F := 45) (CD.pure (CC.if_ne_F (T := 43) (F := 45) (CE.callV (by decide) (CA.ref (CE.aload_n rfl dX10_believed_34 zhd) (CA.int (CE.iload_n rfl dX10_believed_35 zhd) (CA.int (CE.iconst kI_3 dX10_believed_36 zhd) CA.nil))) zi_85 cv_X10_57 (fun _ => rfl) dX10_believed_37 zhd) dX10_believed_40 rfl rfl)) (CS.retI (CX.pure (CE.iconst kI_3 dX10_believed_43 zhd)) dX10_believed_44) zhd)
  (CS.seq 56 (CS.if1 (T := 54) (F := 56) (CD.pure (CC.if_ne_F (T := 54) (F := 56) (CE.callV (by decide) (CA.ref (CE.aload_n rfl dX10_believed_45 zhd) (CA.int (CE.iload_n rfl dX10_believed_46 zhd) (CA.int (CE.iconst kI_5 dX10_believed_47 zhd) CA.nil))) zi_85 cv_X10_57 (fun _ => rfl) dX10_believed_48 zhd) dX10_believed_51 rfl rfl)) (CS.retI (CX.pure (CE.iconst kI_5 dX10_believed_54 zhd)) dX10_believed_55) zhd)
  (CS.retI (CX.pure (CE.tern (T := 66) (F := 71) (p1 := 68) (q := 72) (CC.if_ne_F (T := 66) (F := 71) (CE.callV (by decide) (CA.ref (CE.aload_n rfl dX10_believed_56 zhd) (CA.int (CE.iload_n rfl dX10_believed_57 zhd) (CA.int (CE.bipush kB_6 dX10_believed_58 zhd) CA.nil))) zi_85 cv_X10_57 (fun _ => rfl) dX10_believed_60 zhd) dX10_believed_63 rfl rfl) (CE.bipush kB_6 dX10_believed_66 zhd) zex2 dX10_believed_68 rfl zhd (CE.iconst kI_0 dX10_believed_71 zhd))) dX10_believed_72))))))
theorem dX10_agree_0 : decode cX10_agree 0 = .ok (.aload_n 0, 1) := by decide +kernel
theorem dX10_agree_1 : decode cX10_agree 1 = .ok (.iload_n 1, 1) := by decide +kernel
theorem dX10_agree_2 : decode cX10_agree 2 = .ok (.iload_n 2, 1) := by decide +kernel
theorem dX10_agree_3 : decode cX10_agree 3 = .ok (.invokevirtual 50, 3) := by decide +kernel
theorem dX10_agree_6 : decode cX10_agree 6 = .ok (.aload_n 0, 1) := by decide +kernel
theorem dX10_agree_7 : decode cX10_agree 7 = .ok (.iload_n 1, 1) := by decide +kernel
theorem dX10_agree_8 : decode cX10_agree 8 = .ok (.iload_n 2, 1) := by decide +kernel
theorem dX10_agree_9 : decode cX10_agree 9 = .ok (.invokevirtual 54, 3) := by decide +kernel
theorem dX10_agree_12 : decode cX10_agree 12 = .ok (.if_icmp .gt 7, 3) := by decide +kernel
theorem dX10_agree_15 : decode cX10_agree 15 = .ok (.iconst 1, 1) := by decide +kernel
theorem dX10_agree_16 : decode cX10_agree 16 = .ok (.goto 4, 3) := by decide +kernel
theorem dX10_agree_19 : decode cX10_agree 19 = .ok (.iconst 0, 1) := by decide +kernel
theorem dX10_agree_20 : decode cX10_agree 20 = .ok (.ireturn, 1) := by decide +kernel
theorem cd_85 (G : ZG) (d : Nat) (K : ZKt) (F : ZFt) (hT : zt5 G.2.2.2) : CS G RX10 cX10_agree 3 d K (some .boolean) [] (fun _ => []) 0 (bd_85 G.2.2.2 K F) := by
  unfold bd_85
  exact (CS.retZ (CX.pure (CE.bool (T := 15) (F := 19) (q := 20) (CC.icmp_le_F (T := 15) (F := 19) (CE.callV (by decide) (CA.ref (CE.aload_n rfl dX10_agree_0 zhd) (CA.int (CE.iload_n rfl dX10_agree_1 zhd) (CA.int (CE.iload_n rfl dX10_agree_2 zhd) CA.nil))) zi_86 cv_X10_50 (fun _ => rfl) dX10_agree_3 zhd) (CE.callV (by decide) (CA.ref (CE.aload_n rfl dX10_agree_6 zhd) (CA.int (CE.iload_n rfl dX10_agree_7 zhd) (CA.int (CE.iload_n rfl dX10_agree_8 zhd) CA.nil))) zi_87 cv_X10_54 (fun _ => rfl) dX10_agree_9 zhd) dX10_agree_12 rfl rfl) dX10_agree_15 rfl dX10_agree_16 rfl zhd dX10_agree_19 zhd)) dX10_agree_20)
theorem dX10_leastOf_0 : decode cX10_leastOf 0 = .ok (.sipush (-9999), 3) := by decide +kernel
theorem dX10_leastOf_3 : decode cX10_leastOf 3 = .ok (.istore_n 3, 1) := by decide +kernel
theorem dX10_leastOf_4 : decode cX10_leastOf 4 = .ok (.iconst 0, 1) := by decide +kernel
theorem dX10_leastOf_5 : decode cX10_leastOf 5 = .ok (.istore 4, 2) := by decide +kernel
theorem dX10_leastOf_7 : decode cX10_leastOf 7 = .ok (.iload 4, 2) := by decide +kernel
theorem dX10_leastOf_9 : decode cX10_leastOf 9 = .ok (.iconst 3, 1) := by decide +kernel
theorem dX10_leastOf_10 : decode cX10_leastOf 10 = .ok (.if_icmp .ge 42, 3) := by decide +kernel
theorem dX10_leastOf_13 : decode cX10_leastOf 13 = .ok (.iload_n 2, 1) := by decide +kernel
theorem dX10_leastOf_14 : decode cX10_leastOf 14 = .ok (.iload 4, 2) := by decide +kernel
theorem dX10_leastOf_16 : decode cX10_leastOf 16 = .ok (.ishr, 1) := by decide +kernel
theorem dX10_leastOf_17 : decode cX10_leastOf 17 = .ok (.iconst 1, 1) := by decide +kernel
theorem dX10_leastOf_18 : decode cX10_leastOf 18 = .ok (.iand, 1) := by decide +kernel
theorem dX10_leastOf_19 : decode cX10_leastOf 19 = .ok (.ifCond .eq 27, 3) := by decide +kernel
theorem dX10_leastOf_22 : decode cX10_leastOf 22 = .ok (.iload_n 3, 1) := by decide +kernel
theorem dX10_leastOf_23 : decode cX10_leastOf 23 = .ok (.aload_n 0, 1) := by decide +kernel
theorem dX10_leastOf_24 : decode cX10_leastOf 24 = .ok (.getfield 23, 3) := by decide +kernel
theorem dX10_leastOf_27 : decode cX10_leastOf 27 = .ok (.iload_n 1, 1) := by decide +kernel
theorem dX10_leastOf_28 : decode cX10_leastOf 28 = .ok (.aaload, 1) := by decide +kernel
theorem dX10_leastOf_29 : decode cX10_leastOf 29 = .ok (.iload 4, 2) := by decide +kernel
theorem dX10_leastOf_31 : decode cX10_leastOf 31 = .ok (.iaload, 1) := by decide +kernel
theorem dX10_leastOf_32 : decode cX10_leastOf 32 = .ok (.aload_n 0, 1) := by decide +kernel
theorem dX10_leastOf_33 : decode cX10_leastOf 33 = .ok (.getfield 26, 3) := by decide +kernel
theorem dX10_leastOf_36 : decode cX10_leastOf 36 = .ok (.iload_n 1, 1) := by decide +kernel
theorem dX10_leastOf_37 : decode cX10_leastOf 37 = .ok (.aaload, 1) := by decide +kernel
theorem dX10_leastOf_38 : decode cX10_leastOf 38 = .ok (.iload 4, 2) := by decide +kernel
theorem dX10_leastOf_40 : decode cX10_leastOf 40 = .ok (.iaload, 1) := by decide +kernel
theorem dX10_leastOf_41 : decode cX10_leastOf 41 = .ok (.isub, 1) := by decide +kernel
theorem dX10_leastOf_42 : decode cX10_leastOf 42 = .ok (.invokestatic 61, 3) := by decide +kernel
theorem dX10_leastOf_45 : decode cX10_leastOf 45 = .ok (.istore_n 3, 1) := by decide +kernel
theorem dX10_leastOf_46 : decode cX10_leastOf 46 = .ok (.iinc 4 1, 3) := by decide +kernel
theorem dX10_leastOf_49 : decode cX10_leastOf 49 = .ok (.goto (-42), 3) := by decide +kernel
theorem dX10_leastOf_52 : decode cX10_leastOf 52 = .ok (.iload_n 3, 1) := by decide +kernel
theorem dX10_leastOf_53 : decode cX10_leastOf 53 = .ok (.ireturn, 1) := by decide +kernel
theorem cd_86 (G : ZG) (d : Nat) (K : ZKt) (F : ZFt) (hT : zt5 G.2.2.2) : CS G RX10 cX10_leastOf 5 d K (some .int) [] (fun _ => []) 0 (bd_86 G.2.2.2 K F) := by
  unfold bd_86
  exact (CS.seq 4 (CS.decI_n (CX.pure (CE.sipush kS_m9999 dX10_leastOf_0 zhd)) rfl (by decide) dX10_leastOf_3 zhd)
  (CS.seq 52 (CS.scope (CS.seq 7 (CS.decI (CX.pure (CE.iconst kI_0 dX10_leastOf_4 zhd)) (by decide) dX10_leastOf_5 zhd)
  (CS.whl (T := 13) (F := 52) (p1 := 49) (CD.pure (CC.icmp_lt_F (T := 13) (F := 52) (CE.iload dX10_leastOf_7 zhd) (CE.iconst kI_3 dX10_leastOf_9 zhd) dX10_leastOf_10 rfl rfl))
  (CS.seq 46 (CS.if1 (T := 22) (F := 46) (CD.pure (CC.if_ne_F (T := 22) (F := 46) (CE.iand (CE.ishr (CE.iload_n rfl dX10_leastOf_13 zhd) (CE.iload dX10_leastOf_14 zhd) dX10_leastOf_16 zhd) (CE.iconst kI_1 dX10_leastOf_17 zhd) dX10_leastOf_18 zhd) dX10_leastOf_19 rfl rfl)) (CS.setI_n (CX.pure (CE.mmax (by decide) (CE.iload_n rfl dX10_leastOf_22 zhd) (CE.isub (CE.aldI (CE.aldR (CE.getR (CE.aload_n rfl dX10_leastOf_23 zhd) fs_X10_23 dX10_leastOf_24 zhd) (CE.iload_n rfl dX10_leastOf_27 zhd) dX10_leastOf_28 zhd) (CE.iload dX10_leastOf_29 zhd) (Or.inl ⟨rfl, dX10_leastOf_31⟩) zhd) (CE.aldI (CE.aldR (CE.getR (CE.aload_n rfl dX10_leastOf_32 zhd) fs_X10_26 dX10_leastOf_33 zhd) (CE.iload_n rfl dX10_leastOf_36 zhd) dX10_leastOf_37 zhd) (CE.iload dX10_leastOf_38 zhd) (Or.inl ⟨rfl, dX10_leastOf_40⟩) zhd) dX10_leastOf_41 zhd) mm_X10_61 dX10_leastOf_42 zhd)) rfl (by decide) dX10_leastOf_45 zhd) zhd)
  (CS.inc kI_1 (by decide) dX10_leastOf_46 zhd)) dX10_leastOf_49 rfl zhd)))
  (CS.retI (CX.pure (CE.iload_n rfl dX10_leastOf_52 zhd)) dX10_leastOf_53)))
theorem dX10_greatestOf_0 : decode cX10_greatestOf 0 = .ok (.sipush 9999, 3) := by decide +kernel
theorem dX10_greatestOf_3 : decode cX10_greatestOf 3 = .ok (.istore_n 3, 1) := by decide +kernel
theorem dX10_greatestOf_4 : decode cX10_greatestOf 4 = .ok (.iconst 0, 1) := by decide +kernel
theorem dX10_greatestOf_5 : decode cX10_greatestOf 5 = .ok (.istore 4, 2) := by decide +kernel
theorem dX10_greatestOf_7 : decode cX10_greatestOf 7 = .ok (.iload 4, 2) := by decide +kernel
theorem dX10_greatestOf_9 : decode cX10_greatestOf 9 = .ok (.iconst 3, 1) := by decide +kernel
theorem dX10_greatestOf_10 : decode cX10_greatestOf 10 = .ok (.if_icmp .ge 42, 3) := by decide +kernel
theorem dX10_greatestOf_13 : decode cX10_greatestOf 13 = .ok (.iload_n 2, 1) := by decide +kernel
theorem dX10_greatestOf_14 : decode cX10_greatestOf 14 = .ok (.iload 4, 2) := by decide +kernel
theorem dX10_greatestOf_16 : decode cX10_greatestOf 16 = .ok (.ishr, 1) := by decide +kernel
theorem dX10_greatestOf_17 : decode cX10_greatestOf 17 = .ok (.iconst 1, 1) := by decide +kernel
theorem dX10_greatestOf_18 : decode cX10_greatestOf 18 = .ok (.iand, 1) := by decide +kernel
theorem dX10_greatestOf_19 : decode cX10_greatestOf 19 = .ok (.ifCond .eq 27, 3) := by decide +kernel
theorem dX10_greatestOf_22 : decode cX10_greatestOf 22 = .ok (.iload_n 3, 1) := by decide +kernel
theorem dX10_greatestOf_23 : decode cX10_greatestOf 23 = .ok (.aload_n 0, 1) := by decide +kernel
theorem dX10_greatestOf_24 : decode cX10_greatestOf 24 = .ok (.getfield 23, 3) := by decide +kernel
theorem dX10_greatestOf_27 : decode cX10_greatestOf 27 = .ok (.iload_n 1, 1) := by decide +kernel
theorem dX10_greatestOf_28 : decode cX10_greatestOf 28 = .ok (.aaload, 1) := by decide +kernel
theorem dX10_greatestOf_29 : decode cX10_greatestOf 29 = .ok (.iload 4, 2) := by decide +kernel
theorem dX10_greatestOf_31 : decode cX10_greatestOf 31 = .ok (.iaload, 1) := by decide +kernel
theorem dX10_greatestOf_32 : decode cX10_greatestOf 32 = .ok (.aload_n 0, 1) := by decide +kernel
theorem dX10_greatestOf_33 : decode cX10_greatestOf 33 = .ok (.getfield 26, 3) := by decide +kernel
theorem dX10_greatestOf_36 : decode cX10_greatestOf 36 = .ok (.iload_n 1, 1) := by decide +kernel
theorem dX10_greatestOf_37 : decode cX10_greatestOf 37 = .ok (.aaload, 1) := by decide +kernel
theorem dX10_greatestOf_38 : decode cX10_greatestOf 38 = .ok (.iload 4, 2) := by decide +kernel
theorem dX10_greatestOf_40 : decode cX10_greatestOf 40 = .ok (.iaload, 1) := by decide +kernel
theorem dX10_greatestOf_41 : decode cX10_greatestOf 41 = .ok (.iadd, 1) := by decide +kernel
theorem dX10_greatestOf_42 : decode cX10_greatestOf 42 = .ok (.invokestatic 66, 3) := by decide +kernel
theorem dX10_greatestOf_45 : decode cX10_greatestOf 45 = .ok (.istore_n 3, 1) := by decide +kernel
theorem dX10_greatestOf_46 : decode cX10_greatestOf 46 = .ok (.iinc 4 1, 3) := by decide +kernel
theorem dX10_greatestOf_49 : decode cX10_greatestOf 49 = .ok (.goto (-42), 3) := by decide +kernel
theorem dX10_greatestOf_52 : decode cX10_greatestOf 52 = .ok (.iload_n 3, 1) := by decide +kernel
theorem dX10_greatestOf_53 : decode cX10_greatestOf 53 = .ok (.ireturn, 1) := by decide +kernel
theorem cd_87 (G : ZG) (d : Nat) (K : ZKt) (F : ZFt) (hT : zt5 G.2.2.2) : CS G RX10 cX10_greatestOf 5 d K (some .int) [] (fun _ => []) 0 (bd_87 G.2.2.2 K F) := by
  unfold bd_87
  exact (CS.seq 4 (CS.decI_n (CX.pure (CE.sipush kS_9999 dX10_greatestOf_0 zhd)) rfl (by decide) dX10_greatestOf_3 zhd)
  (CS.seq 52 (CS.scope (CS.seq 7 (CS.decI (CX.pure (CE.iconst kI_0 dX10_greatestOf_4 zhd)) (by decide) dX10_greatestOf_5 zhd)
  (CS.whl (T := 13) (F := 52) (p1 := 49) (CD.pure (CC.icmp_lt_F (T := 13) (F := 52) (CE.iload dX10_greatestOf_7 zhd) (CE.iconst kI_3 dX10_greatestOf_9 zhd) dX10_greatestOf_10 rfl rfl))
  (CS.seq 46 (CS.if1 (T := 22) (F := 46) (CD.pure (CC.if_ne_F (T := 22) (F := 46) (CE.iand (CE.ishr (CE.iload_n rfl dX10_greatestOf_13 zhd) (CE.iload dX10_greatestOf_14 zhd) dX10_greatestOf_16 zhd) (CE.iconst kI_1 dX10_greatestOf_17 zhd) dX10_greatestOf_18 zhd) dX10_greatestOf_19 rfl rfl)) (CS.setI_n (CX.pure (CE.mmin (by decide) (CE.iload_n rfl dX10_greatestOf_22 zhd) (CE.iadd (CE.aldI (CE.aldR (CE.getR (CE.aload_n rfl dX10_greatestOf_23 zhd) fs_X10_23 dX10_greatestOf_24 zhd) (CE.iload_n rfl dX10_greatestOf_27 zhd) dX10_greatestOf_28 zhd) (CE.iload dX10_greatestOf_29 zhd) (Or.inl ⟨rfl, dX10_greatestOf_31⟩) zhd) (CE.aldI (CE.aldR (CE.getR (CE.aload_n rfl dX10_greatestOf_32 zhd) fs_X10_26 dX10_greatestOf_33 zhd) (CE.iload_n rfl dX10_greatestOf_36 zhd) dX10_greatestOf_37 zhd) (CE.iload dX10_greatestOf_38 zhd) (Or.inl ⟨rfl, dX10_greatestOf_40⟩) zhd) dX10_greatestOf_41 zhd) mm_X10_66 dX10_greatestOf_42 zhd)) rfl (by decide) dX10_greatestOf_45 zhd) zhd)
  (CS.inc kI_1 (by decide) dX10_greatestOf_46 zhd)) dX10_greatestOf_49 rfl zhd)))
  (CS.retI (CX.pure (CE.iload_n rfl dX10_greatestOf_52 zhd)) dX10_greatestOf_53)))
theorem dX10_fold_0 : decode cX10_fold 0 = .ok (.lload_n 1, 1) := by decide +kernel
theorem dX10_fold_1 : decode cX10_fold 1 = .ok (.lstore_n 3, 1) := by decide +kernel
theorem dX10_fold_2 : decode cX10_fold 2 = .ok (.iconst 0, 1) := by decide +kernel
theorem dX10_fold_3 : decode cX10_fold 3 = .ok (.istore 5, 2) := by decide +kernel
theorem dX10_fold_5 : decode cX10_fold 5 = .ok (.iload 5, 2) := by decide +kernel
theorem dX10_fold_7 : decode cX10_fold 7 = .ok (.aload_n 0, 1) := by decide +kernel
theorem dX10_fold_8 : decode cX10_fold 8 = .ok (.getfield 35, 3) := by decide +kernel
theorem dX10_fold_11 : decode cX10_fold 11 = .ok (.if_icmp .ge 57, 3) := by decide +kernel
theorem dX10_fold_14 : decode cX10_fold 14 = .ok (.lload_n 3, 1) := by decide +kernel
theorem dX10_fold_15 : decode cX10_fold 15 = .ok (.aload_n 0, 1) := by decide +kernel
theorem dX10_fold_16 : decode cX10_fold 16 = .ok (.getfield 9, 3) := by decide +kernel
theorem dX10_fold_19 : decode cX10_fold 19 = .ok (.iload 5, 2) := by decide +kernel
theorem dX10_fold_21 : decode cX10_fold 21 = .ok (.iaload, 1) := by decide +kernel
theorem dX10_fold_22 : decode cX10_fold 22 = .ok (.i2l, 1) := by decide +kernel
theorem dX10_fold_23 : decode cX10_fold 23 = .ok (.invokestatic 69, 3) := by decide +kernel
theorem dX10_fold_26 : decode cX10_fold 26 = .ok (.aload_n 0, 1) := by decide +kernel
theorem dX10_fold_27 : decode cX10_fold 27 = .ok (.getfield 15, 3) := by decide +kernel
theorem dX10_fold_30 : decode cX10_fold 30 = .ok (.iload 5, 2) := by decide +kernel
theorem dX10_fold_32 : decode cX10_fold 32 = .ok (.iaload, 1) := by decide +kernel
theorem dX10_fold_33 : decode cX10_fold 33 = .ok (.i2l, 1) := by decide +kernel
theorem dX10_fold_34 : decode cX10_fold 34 = .ok (.invokestatic 69, 3) := by decide +kernel
theorem dX10_fold_37 : decode cX10_fold 37 = .ok (.lstore_n 3, 1) := by decide +kernel
theorem dX10_fold_38 : decode cX10_fold 38 = .ok (.lload_n 3, 1) := by decide +kernel
theorem dX10_fold_39 : decode cX10_fold 39 = .ok (.aload_n 0, 1) := by decide +kernel
theorem dX10_fold_40 : decode cX10_fold 40 = .ok (.getfield 29, 3) := by decide +kernel
theorem dX10_fold_43 : decode cX10_fold 43 = .ok (.iload 5, 2) := by decide +kernel
theorem dX10_fold_45 : decode cX10_fold 45 = .ok (.iaload, 1) := by decide +kernel
theorem dX10_fold_46 : decode cX10_fold 46 = .ok (.i2l, 1) := by decide +kernel
theorem dX10_fold_47 : decode cX10_fold 47 = .ok (.invokestatic 69, 3) := by decide +kernel
theorem dX10_fold_50 : decode cX10_fold 50 = .ok (.aload_n 0, 1) := by decide +kernel
theorem dX10_fold_51 : decode cX10_fold 51 = .ok (.getfield 32, 3) := by decide +kernel
theorem dX10_fold_54 : decode cX10_fold 54 = .ok (.iload 5, 2) := by decide +kernel
theorem dX10_fold_56 : decode cX10_fold 56 = .ok (.iaload, 1) := by decide +kernel
theorem dX10_fold_57 : decode cX10_fold 57 = .ok (.i2l, 1) := by decide +kernel
theorem dX10_fold_58 : decode cX10_fold 58 = .ok (.invokestatic 69, 3) := by decide +kernel
theorem dX10_fold_61 : decode cX10_fold 61 = .ok (.lstore_n 3, 1) := by decide +kernel
theorem dX10_fold_62 : decode cX10_fold 62 = .ok (.iinc 5 1, 3) := by decide +kernel
theorem dX10_fold_65 : decode cX10_fold 65 = .ok (.goto (-60), 3) := by decide +kernel
theorem dX10_fold_68 : decode cX10_fold 68 = .ok (.lload_n 3, 1) := by decide +kernel
theorem dX10_fold_69 : decode cX10_fold 69 = .ok (.lreturn, 1) := by decide +kernel
theorem cd_88 (G : ZG) (d : Nat) (K : ZKt) (F : ZFt) (hT : zt5 G.2.2.2) : CS G RX10 cX10_fold 6 d K (some .long) [] (fun _ => []) 0 (bd_88 G.2.2.2 K F) := by
  unfold bd_88
  exact (CS.seq 2 (CS.decL_n (CX.pure (CE.lload_n rfl dX10_fold_0 zhd)) rfl (by decide) dX10_fold_1 zhd)
  (CS.seq 68 (CS.scope (CS.seq 5 (CS.decI (CX.pure (CE.iconst kI_0 dX10_fold_2 zhd)) (by decide) dX10_fold_3 zhd)
  (CS.whl (T := 14) (F := 68) (p1 := 65) (CD.pure (CC.icmp_lt_F (T := 14) (F := 68) (CE.iload dX10_fold_5 zhd) (CE.getI (CE.aload_n rfl dX10_fold_7 zhd) fs_X10_35 dX10_fold_8 zhd) dX10_fold_11 rfl rfl))
  (CS.seq 62 (CS.seq 38 (CS.setL_n (CX.pure (CE.callS (by decide) (CA.long (CE.callS (by decide) (CA.long (CE.lload_n rfl dX10_fold_14 zhd) (CA.long (CE.i2l (CE.aldI (CE.getR (CE.aload_n rfl dX10_fold_15 zhd) fs_X10_9 dX10_fold_16 zhd) (CE.iload dX10_fold_19 zhd) (Or.inl ⟨rfl, dX10_fold_21⟩) zhd) dX10_fold_22 zhd) CA.nil)) zi_132 cs_X10_69 (fun _ => rfl) dX10_fold_23 zhd) (CA.long (CE.i2l (CE.aldI (CE.getR (CE.aload_n rfl dX10_fold_26 zhd) fs_X10_15 dX10_fold_27 zhd) (CE.iload dX10_fold_30 zhd) (Or.inl ⟨rfl, dX10_fold_32⟩) zhd) dX10_fold_33 zhd) CA.nil)) zi_132 cs_X10_69 (fun _ => rfl) dX10_fold_34 zhd)) rfl (by decide) dX10_fold_37 zhd)
  (CS.setL_n (CX.pure (CE.callS (by decide) (CA.long (CE.callS (by decide) (CA.long (CE.lload_n rfl dX10_fold_38 zhd) (CA.long (CE.i2l (CE.aldI (CE.getR (CE.aload_n rfl dX10_fold_39 zhd) fs_X10_29 dX10_fold_40 zhd) (CE.iload dX10_fold_43 zhd) (Or.inl ⟨rfl, dX10_fold_45⟩) zhd) dX10_fold_46 zhd) CA.nil)) zi_132 cs_X10_69 (fun _ => rfl) dX10_fold_47 zhd) (CA.long (CE.i2l (CE.aldI (CE.getR (CE.aload_n rfl dX10_fold_50 zhd) fs_X10_32 dX10_fold_51 zhd) (CE.iload dX10_fold_54 zhd) (Or.inl ⟨rfl, dX10_fold_56⟩) zhd) dX10_fold_57 zhd) CA.nil)) zi_132 cs_X10_69 (fun _ => rfl) dX10_fold_58 zhd)) rfl (by decide) dX10_fold_61 zhd))
  (CS.inc kI_1 (by decide) dX10_fold_62 zhd)) dX10_fold_65 rfl zhd)))
  (CS.retL (CX.pure (CE.lload_n rfl dX10_fold_68 zhd)) dX10_fold_69)))
theorem dX11_part_0 : decode cX11_part 0 = .ok (.iload_n 1, 1) := by decide +kernel
theorem dX11_part_1 : decode cX11_part 1 = .ok (.bipush 8, 2) := by decide +kernel
theorem dX11_part_3 : decode cX11_part 3 = .ok (.invokestatic 86, 3) := by decide +kernel
theorem dX11_part_6 : decode cX11_part 6 = .ok (.ifCond .eq 11, 3) := by decide +kernel
theorem dX11_part_9 : decode cX11_part 9 = .ok (.iload_n 2, 1) := by decide +kernel
theorem dX11_part_10 : decode cX11_part 10 = .ok (.iconst 3, 1) := by decide +kernel
theorem dX11_part_11 : decode cX11_part 11 = .ok (.invokestatic 86, 3) := by decide +kernel
theorem dX11_part_14 : decode cX11_part 14 = .ok (.ifCond .ne 6, 3) := by decide +kernel
theorem dX11_part_17 : decode cX11_part 17 = .ok (.bipush (-101), 2) := by decide +kernel
theorem dX11_part_19 : decode cX11_part 19 = .ok (.ireturn, 1) := by decide +kernel
theorem dX11_part_20 : decode cX11_part 20 = .ok (.iload_n 3, 1) := by decide +kernel
theorem dX11_part_21 : decode cX11_part 21 = .ok (.iconst 0, 1) := by decide +kernel
theorem dX11_part_22 : decode cX11_part 22 = .ok (.aload_n 0, 1) := by decide +kernel
theorem dX11_part_23 : decode cX11_part 23 = .ok (.getfield 10, 3) := by decide +kernel
theorem dX11_part_26 : decode cX11_part 26 = .ok (.iload_n 2, 1) := by decide +kernel
theorem dX11_part_27 : decode cX11_part 27 = .ok (.invokevirtual 90, 3) := by decide +kernel
theorem dX11_part_30 : decode cX11_part 30 = .ok (.invokestatic 94, 3) := by decide +kernel
theorem dX11_part_33 : decode cX11_part 33 = .ok (.ifCond .ne 6, 3) := by decide +kernel
theorem dX11_part_36 : decode cX11_part 36 = .ok (.bipush (-102), 2) := by decide +kernel
theorem dX11_part_38 : decode cX11_part 38 = .ok (.ireturn, 1) := by decide +kernel
theorem dX11_part_39 : decode cX11_part 39 = .ok (.iload_n 2, 1) := by decide +kernel
theorem dX11_part_40 : decode cX11_part 40 = .ok (.ifCond .ne 17, 3) := by decide +kernel
theorem dX11_part_43 : decode cX11_part 43 = .ok (.aload_n 0, 1) := by decide +kernel
theorem dX11_part_44 : decode cX11_part 44 = .ok (.getfield 40, 3) := by decide +kernel
theorem dX11_part_47 : decode cX11_part 47 = .ok (.iload_n 1, 1) := by decide +kernel
theorem dX11_part_48 : decode cX11_part 48 = .ok (.invokevirtual 98, 3) := by decide +kernel
theorem dX11_part_51 : decode cX11_part 51 = .ok (.ifCond .eq 6, 3) := by decide +kernel
theorem dX11_part_54 : decode cX11_part 54 = .ok (.bipush (-103), 2) := by decide +kernel
theorem dX11_part_56 : decode cX11_part 56 = .ok (.ireturn, 1) := by decide +kernel
theorem dX11_part_57 : decode cX11_part 57 = .ok (.aload_n 0, 1) := by decide +kernel
theorem dX11_part_58 : decode cX11_part 58 = .ok (.getfield 10, 3) := by decide +kernel
theorem dX11_part_61 : decode cX11_part 61 = .ok (.iload_n 2, 1) := by decide +kernel
theorem dX11_part_62 : decode cX11_part 62 = .ok (.invokevirtual 102, 3) := by decide +kernel
theorem dX11_part_65 : decode cX11_part 65 = .ok (.iload_n 1, 1) := by decide +kernel
theorem dX11_part_66 : decode cX11_part 66 = .ok (.iload_n 3, 1) := by decide +kernel
theorem dX11_part_67 : decode cX11_part 67 = .ok (.invokestatic 106, 3) := by decide +kernel
theorem dX11_part_70 : decode cX11_part 70 = .ok (.ireturn, 1) := by decide +kernel
theorem cd_89 (G : ZG) (d : Nat) (K : ZKt) (F : ZFt) (hT : zt5 G.2.2.2) : CS G RX11 cX11_part 4 d K (some .int) [] (fun _ => []) 0 (bd_89 G.2.2.2 K F) := by
  unfold bd_89
  exact (CS.seq 20 (CS.if1 (T := 17) (F := 20) (CD.pure (CC.or (CC.not (CC.if_ne_F (T := 9) (F := 17) (CE.callS (by decide) (CA.int (CE.iload_n rfl dX11_part_0 zhd) (CA.int (CE.bipush kB_8 dX11_part_1 zhd) CA.nil)) zi_129 cs_X11_86 (fun _ => rfl) dX11_part_3 zhd) dX11_part_6 rfl rfl)) (CC.not (CC.if_ne_T (T := 20) (F := 17) (CE.callS (by decide) (CA.int (CE.iload_n rfl dX11_part_9 zhd) (CA.int (CE.iconst kI_3 dX11_part_10 zhd) CA.nil)) zi_129 cs_X11_86 (fun _ => rfl) dX11_part_11 zhd) dX11_part_14 rfl rfl)))) (CS.retI (CX.pure (CE.bipush kB_m101 dX11_part_17 zhd)) dX11_part_19) zhd)
  (CS.seq 39 (CS.if1 (T := 36) (F := 39) (CD.pure (CC.not (CC.if_ne_T (T := 39) (F := 36) (CE.callS (by decide) (CA.int (CE.iload_n rfl dX11_part_20 zhd) (CA.int (CE.iconst kI_0 dX11_part_21 zhd) (CA.int (CE.callV (by decide) (CA.ref (CE.getR (CE.aload_n rfl dX11_part_22 zhd) fs_X11_10 dX11_part_23 zhd) (CA.int (CE.iload_n rfl dX11_part_26 zhd) CA.nil)) zi_12 cv_X11_90 (fun _ => rfl) dX11_part_27 zhd) CA.nil))) zi_130 cs_X11_94 (fun _ => rfl) dX11_part_30 zhd) dX11_part_33 rfl rfl))) (CS.retI (CX.pure (CE.bipush kB_m102 dX11_part_36 zhd)) dX11_part_38) zhd)
  (CS.seq 57 (CS.if1 (T := 54) (F := 57) (CD.pure (CC.and (CC.if_eq_F (T := 43) (F := 57) (CE.iload_n rfl dX11_part_39 zhd) dX11_part_40 rfl rfl) (CC.if_ne_F (T := 54) (F := 57) (CE.callV (by decide) (CA.ref (CE.getR (CE.aload_n rfl dX11_part_43 zhd) fs_X11_40 dX11_part_44 zhd) (CA.int (CE.iload_n rfl dX11_part_47 zhd) CA.nil)) zi_80 cv_X11_98 (fun _ => rfl) dX11_part_48 zhd) dX11_part_51 rfl rfl))) (CS.retI (CX.pure (CE.bipush kB_m103 dX11_part_54 zhd)) dX11_part_56) zhd)
  (CS.retI (CX.callS (by decide) (CA.ref (CE.callV (by decide) (CA.ref (CE.getR (CE.aload_n rfl dX11_part_57 zhd) fs_X11_10 dX11_part_58 zhd) (CA.int (CE.iload_n rfl dX11_part_61 zhd) CA.nil)) zi_11 cv_X11_102 (fun _ => rfl) dX11_part_62 zhd) (CA.int (CE.iload_n rfl dX11_part_65 zhd) (CA.int (CE.iload_n rfl dX11_part_66 zhd) CA.nil))) zi_131 cs_X11_106 (fun _ => rfl) dX11_part_67 zhd) dX11_part_70))))
theorem dX11_as_0 : decode cX11_as 0 = .ok (.iload_n 1, 1) := by decide +kernel
theorem dX11_as_1 : decode cX11_as 1 = .ok (.bipush 8, 2) := by decide +kernel
theorem dX11_as_3 : decode cX11_as 3 = .ok (.invokestatic 86, 3) := by decide +kernel
theorem dX11_as_6 : decode cX11_as 6 = .ok (.ifCond .ne 6, 3) := by decide +kernel
theorem dX11_as_9 : decode cX11_as 9 = .ok (.bipush (-101), 2) := by decide +kernel
theorem dX11_as_11 : decode cX11_as 11 = .ok (.ireturn, 1) := by decide +kernel
theorem dX11_as_12 : decode cX11_as 12 = .ok (.iload_n 2, 1) := by decide +kernel
theorem dX11_as_13 : decode cX11_as 13 = .ok (.bipush 7, 2) := by decide +kernel
theorem dX11_as_15 : decode cX11_as 15 = .ok (.invokestatic 86, 3) := by decide +kernel
theorem dX11_as_18 : decode cX11_as 18 = .ok (.ifCond .ne 6, 3) := by decide +kernel
theorem dX11_as_21 : decode cX11_as 21 = .ok (.bipush (-102), 2) := by decide +kernel
theorem dX11_as_23 : decode cX11_as 23 = .ok (.ireturn, 1) := by decide +kernel
theorem dX11_as_24 : decode cX11_as 24 = .ok (.aload_n 0, 1) := by decide +kernel
theorem dX11_as_25 : decode cX11_as 25 = .ok (.getfield 10, 3) := by decide +kernel
theorem dX11_as_28 : decode cX11_as 28 = .ok (.iload_n 1, 1) := by decide +kernel
theorem dX11_as_29 : decode cX11_as 29 = .ok (.iload_n 2, 1) := by decide +kernel
theorem dX11_as_30 : decode cX11_as 30 = .ok (.invokevirtual 110, 3) := by decide +kernel
theorem dX11_as_33 : decode cX11_as 33 = .ok (.ifCond .eq 7, 3) := by decide +kernel
theorem dX11_as_36 : decode cX11_as 36 = .ok (.iload_n 1, 1) := by decide +kernel
theorem dX11_as_37 : decode cX11_as 37 = .ok (.goto 4, 3) := by decide +kernel
theorem dX11_as_40 : decode cX11_as 40 = .ok (.iconst (-1), 1) := by decide +kernel
theorem dX11_as_41 : decode cX11_as 41 = .ok (.ireturn, 1) := by decide +kernel
theorem cd_90 (G : ZG) (d : Nat) (K : ZKt) (F : ZFt) (hT : zt5 G.2.2.2) : CS G RX11 cX11_as 3 d K (some .int) [] (fun _ => []) 0 (bd_90 G.2.2.2 K F) := by
  unfold bd_90
  exact (CS.seq 12 (CS.if1 (T := 9) (F := 12) (CD.pure (CC.not (CC.if_ne_T (T := 12) (F := 9) (CE.callS (by decide) (CA.int (CE.iload_n rfl dX11_as_0 zhd) (CA.int (CE.bipush kB_8 dX11_as_1 zhd) CA.nil)) zi_129 cs_X11_86 (fun _ => rfl) dX11_as_3 zhd) dX11_as_6 rfl rfl))) (CS.retI (CX.pure (CE.bipush kB_m101 dX11_as_9 zhd)) dX11_as_11) zhd)
  (CS.seq 24 (CS.if1 (T := 21) (F := 24) (CD.pure (CC.not (CC.if_ne_T (T := 24) (F := 21) (CE.callS (by decide) (CA.int (CE.iload_n rfl dX11_as_12 zhd) (CA.int (CE.bipush kB_7 dX11_as_13 zhd) CA.nil)) zi_129 cs_X11_86 (fun _ => rfl) dX11_as_15 zhd) dX11_as_18 rfl rfl))) (CS.retI (CX.pure (CE.bipush kB_m102 dX11_as_21 zhd)) dX11_as_23) zhd)
  (CS.retI (CX.pure (CE.tern (T := 36) (F := 40) (p1 := 37) (q := 41) (CC.if_ne_F (T := 36) (F := 40) (CE.callV (by decide) (CA.ref (CE.getR (CE.aload_n rfl dX11_as_24 zhd) fs_X11_10 dX11_as_25 zhd) (CA.int (CE.iload_n rfl dX11_as_28 zhd) (CA.int (CE.iload_n rfl dX11_as_29 zhd) CA.nil))) zi_13 cv_X11_110 (fun _ => rfl) dX11_as_30 zhd) dX11_as_33 rfl rfl) (CE.iload_n rfl dX11_as_36 zhd) zex2 dX11_as_37 rfl zhd (CE.iconst kI_m1 dX11_as_40 zhd))) dX11_as_41)))
theorem dX11_size_0 : decode cX11_size 0 = .ok (.iload_n 1, 1) := by decide +kernel
theorem dX11_size_1 : decode cX11_size 1 = .ok (.bipush 8, 2) := by decide +kernel
theorem dX11_size_3 : decode cX11_size 3 = .ok (.invokestatic 86, 3) := by decide +kernel
theorem dX11_size_6 : decode cX11_size 6 = .ok (.ifCond .ne 6, 3) := by decide +kernel
theorem dX11_size_9 : decode cX11_size 9 = .ok (.bipush (-101), 2) := by decide +kernel
theorem dX11_size_11 : decode cX11_size 11 = .ok (.ireturn, 1) := by decide +kernel
theorem dX11_size_12 : decode cX11_size 12 = .ok (.aload_n 0, 1) := by decide +kernel
theorem dX11_size_13 : decode cX11_size 13 = .ok (.getfield 10, 3) := by decide +kernel
theorem dX11_size_16 : decode cX11_size 16 = .ok (.iload_n 1, 1) := by decide +kernel
theorem dX11_size_17 : decode cX11_size 17 = .ok (.invokevirtual 113, 3) := by decide +kernel
theorem dX11_size_20 : decode cX11_size 20 = .ok (.ireturn, 1) := by decide +kernel
theorem cd_91 (G : ZG) (d : Nat) (K : ZKt) (F : ZFt) (hT : zt5 G.2.2.2) : CS G RX11 cX11_size 2 d K (some .int) [] (fun _ => []) 0 (bd_91 G.2.2.2 K F) := by
  unfold bd_91
  exact (CS.seq 12 (CS.if1 (T := 9) (F := 12) (CD.pure (CC.not (CC.if_ne_T (T := 12) (F := 9) (CE.callS (by decide) (CA.int (CE.iload_n rfl dX11_size_0 zhd) (CA.int (CE.bipush kB_8 dX11_size_1 zhd) CA.nil)) zi_129 cs_X11_86 (fun _ => rfl) dX11_size_3 zhd) dX11_size_6 rfl rfl))) (CS.retI (CX.pure (CE.bipush kB_m101 dX11_size_9 zhd)) dX11_size_11) zhd)
  (CS.retI (CX.pure (CE.callV (by decide) (CA.ref (CE.getR (CE.aload_n rfl dX11_size_12 zhd) fs_X11_10 dX11_size_13 zhd) (CA.int (CE.iload_n rfl dX11_size_16 zhd) CA.nil)) zi_14 cv_X11_113 (fun _ => rfl) dX11_size_17 zhd)) dX11_size_20))
