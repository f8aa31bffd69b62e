/-! code of the bodies 0 to 32 -/
theorem dX0_add_0 : decode cX0_add 0 = .ok (.aload_n 0, 1) := by decide +kernel
theorem dX0_add_1 : decode cX0_add 1 = .ok (.getfield 36, 3) := by decide +kernel
theorem dX0_add_4 : decode cX0_add 4 = .ok (.bipush 6, 2) := by decide +kernel
theorem dX0_add_6 : decode cX0_add 6 = .ok (.if_icmp .lt 4, 3) := by decide +kernel
theorem dX0_add_9 : decode cX0_add 9 = .ok (.return_, 1) := by decide +kernel
theorem dX0_add_10 : decode cX0_add 10 = .ok (.aload_n 0, 1) := by decide +kernel
theorem dX0_add_11 : decode cX0_add 11 = .ok (.getfield 9, 3) := by decide +kernel
theorem dX0_add_14 : decode cX0_add 14 = .ok (.aload_n 0, 1) := by decide +kernel
theorem dX0_add_15 : decode cX0_add 15 = .ok (.getfield 36, 3) := by decide +kernel
theorem dX0_add_18 : decode cX0_add 18 = .ok (.aload_n 1, 1) := by decide +kernel
theorem dX0_add_19 : decode cX0_add 19 = .ok (.getfield 40, 3) := by decide +kernel
theorem dX0_add_22 : decode cX0_add 22 = .ok (.iastore, 1) := by decide +kernel
theorem dX0_add_23 : decode cX0_add 23 = .ok (.aload_n 0, 1) := by decide +kernel
theorem dX0_add_24 : decode cX0_add 24 = .ok (.getfield 15, 3) := by decide +kernel
theorem dX0_add_27 : decode cX0_add 27 = .ok (.aload_n 0, 1) := by decide +kernel
theorem dX0_add_28 : decode cX0_add 28 = .ok (.getfield 36, 3) := by decide +kernel
theorem dX0_add_31 : decode cX0_add 31 = .ok (.aload_n 1, 1) := by decide +kernel
theorem dX0_add_32 : decode cX0_add 32 = .ok (.getfield 44, 3) := by decide +kernel
theorem dX0_add_35 : decode cX0_add 35 = .ok (.iastore, 1) := by decide +kernel
theorem dX0_add_36 : decode cX0_add 36 = .ok (.aload_n 0, 1) := by decide +kernel
theorem dX0_add_37 : decode cX0_add 37 = .ok (.getfield 18, 3) := by decide +kernel
theorem dX0_add_40 : decode cX0_add 40 = .ok (.aload_n 0, 1) := by decide +kernel
theorem dX0_add_41 : decode cX0_add 41 = .ok (.getfield 36, 3) := by decide +kernel
theorem dX0_add_44 : decode cX0_add 44 = .ok (.aload_n 1, 1) := by decide +kernel
theorem dX0_add_45 : decode cX0_add 45 = .ok (.getfield 46, 3) := by decide +kernel
theorem dX0_add_48 : decode cX0_add 48 = .ok (.iastore, 1) := by decide +kernel
theorem dX0_add_49 : decode cX0_add 49 = .ok (.aload_n 1, 1) := by decide +kernel
theorem dX0_add_50 : decode cX0_add 50 = .ok (.getfield 48, 3) := by decide +kernel
theorem dX0_add_53 : decode cX0_add 53 = .ok (.iconst 0, 1) := by decide +kernel
theorem dX0_add_54 : decode cX0_add 54 = .ok (.aload_n 0, 1) := by decide +kernel
theorem dX0_add_55 : decode cX0_add 55 = .ok (.getfield 23, 3) := by decide +kernel
theorem dX0_add_58 : decode cX0_add 58 = .ok (.aload_n 0, 1) := by decide +kernel
theorem dX0_add_59 : decode cX0_add 59 = .ok (.getfield 36, 3) := by decide +kernel
theorem dX0_add_62 : decode cX0_add 62 = .ok (.aaload, 1) := by decide +kernel
theorem dX0_add_63 : decode cX0_add 63 = .ok (.iconst 0, 1) := by decide +kernel
theorem dX0_add_64 : decode cX0_add 64 = .ok (.bipush 6, 2) := by decide +kernel
theorem dX0_add_66 : decode cX0_add 66 = .ok (.invokestatic 50, 3) := by decide +kernel
theorem dX0_add_69 : decode cX0_add 69 = .ok (.aload_n 1, 1) := by decide +kernel
theorem dX0_add_70 : decode cX0_add 70 = .ok (.getfield 56, 3) := by decide +kernel
theorem dX0_add_73 : decode cX0_add 73 = .ok (.iconst 0, 1) := by decide +kernel
theorem dX0_add_74 : decode cX0_add 74 = .ok (.aload_n 0, 1) := by decide +kernel
theorem dX0_add_75 : decode cX0_add 75 = .ok (.getfield 26, 3) := by decide +kernel
theorem dX0_add_78 : decode cX0_add 78 = .ok (.aload_n 0, 1) := by decide +kernel
theorem dX0_add_79 : decode cX0_add 79 = .ok (.getfield 36, 3) := by decide +kernel
theorem dX0_add_82 : decode cX0_add 82 = .ok (.aaload, 1) := by decide +kernel
theorem dX0_add_83 : decode cX0_add 83 = .ok (.iconst 0, 1) := by decide +kernel
theorem dX0_add_84 : decode cX0_add 84 = .ok (.bipush 6, 2) := by decide +kernel
theorem dX0_add_86 : decode cX0_add 86 = .ok (.invokestatic 50, 3) := by decide +kernel
theorem dX0_add_89 : decode cX0_add 89 = .ok (.aload_n 0, 1) := by decide +kernel
theorem dX0_add_90 : decode cX0_add 90 = .ok (.dup, 1) := by decide +kernel
theorem dX0_add_91 : decode cX0_add 91 = .ok (.getfield 36, 3) := by decide +kernel
theorem dX0_add_94 : decode cX0_add 94 = .ok (.iconst 1, 1) := by decide +kernel
theorem dX0_add_95 : decode cX0_add 95 = .ok (.iadd, 1) := by decide +kernel
theorem dX0_add_96 : decode cX0_add 96 = .ok (.putfield 36, 3) := by decide +kernel
theorem dX0_add_99 : decode cX0_add 99 = .ok (.return_, 1) := by decide +kernel
theorem cd_0 (G : ZG) (d : Nat) (K : ZKt) (F : ZFt) (hT : zt5 G.2.2.2) : CS G RX0 cX0_add 2 d K (none) [] (fun _ => []) 0 (bd_0 G.2.2.2 K F) := by
  unfold bd_0
  exact (CS.seq 99 (CS.seq 10 (CS.if1 (T := 9) (F := 10) (CD.pure (CC.icmp_ge_F (T := 9) (F := 10) (CE.getI (CE.aload_n rfl dX0_add_0 zhd) fs_X0_36 dX0_add_1 zhd) (CE.bipush kB_6 dX0_add_4 zhd) dX0_add_6 rfl rfl)) (CS.retV dX0_add_9) zhd)
  (CS.seq 23 (CS.st (CE.getR (CE.aload_n rfl dX0_add_10 zhd) fs_X0_9 dX0_add_11 zhd) (CX.pure (CE.getI (CE.aload_n rfl dX0_add_14 zhd) fs_X0_36 dX0_add_15 zhd)) (CX.pure (CE.getI (CE.aload_n rfl dX0_add_18 zhd) fs_X0_40 dX0_add_19 zhd)) (Or.inl ⟨rfl, dX0_add_22⟩) zhd)
  (CS.seq 36 (CS.st (CE.getR (CE.aload_n rfl dX0_add_23 zhd) fs_X0_15 dX0_add_24 zhd) (CX.pure (CE.getI (CE.aload_n rfl dX0_add_27 zhd) fs_X0_36 dX0_add_28 zhd)) (CX.pure (CE.getI (CE.aload_n rfl dX0_add_31 zhd) fs_X0_44 dX0_add_32 zhd)) (Or.inl ⟨rfl, dX0_add_35⟩) zhd)
  (CS.seq 49 (CS.st (CE.getR (CE.aload_n rfl dX0_add_36 zhd) fs_X0_18 dX0_add_37 zhd) (CX.pure (CE.getI (CE.aload_n rfl dX0_add_40 zhd) fs_X0_36 dX0_add_41 zhd)) (CX.pure (CE.getI (CE.aload_n rfl dX0_add_44 zhd) fs_X0_46 dX0_add_45 zhd)) (Or.inl ⟨rfl, dX0_add_48⟩) zhd)
  (CS.seq 69 (CS.cpy (CE.getR (CE.aload_n rfl dX0_add_49 zhd) fs_X0_48 dX0_add_50 zhd) dX0_add_53 (CE.aldR (CE.getR (CE.aload_n rfl dX0_add_54 zhd) fs_X0_23 dX0_add_55 zhd) (CE.getI (CE.aload_n rfl dX0_add_58 zhd) fs_X0_36 dX0_add_59 zhd) dX0_add_62 zhd) dX0_add_63 (CE.bipush kB_6 dX0_add_64 zhd) sy_X0_50 dX0_add_66 zhd)
  (CS.seq 89 (CS.cpy (CE.getR (CE.aload_n rfl dX0_add_69 zhd) fs_X0_56 dX0_add_70 zhd) dX0_add_73 (CE.aldR (CE.getR (CE.aload_n rfl dX0_add_74 zhd) fs_X0_26 dX0_add_75 zhd) (CE.getI (CE.aload_n rfl dX0_add_78 zhd) fs_X0_36 dX0_add_79 zhd) dX0_add_82 zhd) dX0_add_83 (CE.bipush kB_6 dX0_add_84 zhd) sy_X0_50 dX0_add_86 zhd)
  (CS.upd (CE.aload_n rfl dX0_add_89 zhd) dX0_add_90 dX0_add_91 (CE.iconst kI_1 dX0_add_94 zhd) (Or.inl ⟨rfl, dX0_add_95⟩) fs_X0_36 fp_X0_36 dX0_add_96 zhd)))))))
  (CS.retV dX0_add_99))
theorem dX0_about_0 : decode cX0_about 0 = .ok (.aload_n 0, 1) := by decide +kernel
theorem dX0_about_1 : decode cX0_about 1 = .ok (.iload_n 1, 1) := by decide +kernel
theorem dX0_about_2 : decode cX0_about 2 = .ok (.aload_n 3, 1) := by decide +kernel
theorem dX0_about_3 : decode cX0_about 3 = .ok (.invokevirtual 58, 3) := by decide +kernel
theorem dX0_about_6 : decode cX0_about 6 = .ok (.istore 4, 2) := by decide +kernel
theorem dX0_about_8 : decode cX0_about 8 = .ok (.aload_n 0, 1) := by decide +kernel
theorem dX0_about_9 : decode cX0_about 9 = .ok (.iload_n 1, 1) := by decide +kernel
theorem dX0_about_10 : decode cX0_about 10 = .ok (.aload_n 3, 1) := by decide +kernel
theorem dX0_about_11 : decode cX0_about 11 = .ok (.invokevirtual 62, 3) := by decide +kernel
theorem dX0_about_14 : decode cX0_about 14 = .ok (.istore 5, 2) := by decide +kernel
theorem dX0_about_16 : decode cX0_about 16 = .ok (.iload_n 2, 1) := by decide +kernel
theorem dX0_about_17 : decode cX0_about 17 = .ok (.tableswitch 75 0 5 #[39, 46, 53, 60, 63, 69], 39) := by decide +kernel
theorem dX0_about_56 : decode cX0_about 56 = .ok (.aload_n 0, 1) := by decide +kernel
theorem dX0_about_57 : decode cX0_about 57 = .ok (.getfield 9, 3) := by decide +kernel
theorem dX0_about_60 : decode cX0_about 60 = .ok (.iload_n 1, 1) := by decide +kernel
theorem dX0_about_61 : decode cX0_about 61 = .ok (.iaload, 1) := by decide +kernel
theorem dX0_about_62 : decode cX0_about 62 = .ok (.ireturn, 1) := by decide +kernel
theorem dX0_about_63 : decode cX0_about 63 = .ok (.aload_n 0, 1) := by decide +kernel
theorem dX0_about_64 : decode cX0_about 64 = .ok (.getfield 15, 3) := by decide +kernel
theorem dX0_about_67 : decode cX0_about 67 = .ok (.iload_n 1, 1) := by decide +kernel
theorem dX0_about_68 : decode cX0_about 68 = .ok (.iaload, 1) := by decide +kernel
theorem dX0_about_69 : decode cX0_about 69 = .ok (.ireturn, 1) := by decide +kernel
theorem dX0_about_70 : decode cX0_about 70 = .ok (.aload_n 0, 1) := by decide +kernel
theorem dX0_about_71 : decode cX0_about 71 = .ok (.getfield 18, 3) := by decide +kernel
theorem dX0_about_74 : decode cX0_about 74 = .ok (.iload_n 1, 1) := by decide +kernel
theorem dX0_about_75 : decode cX0_about 75 = .ok (.iaload, 1) := by decide +kernel
theorem dX0_about_76 : decode cX0_about 76 = .ok (.ireturn, 1) := by decide +kernel
theorem dX0_about_77 : decode cX0_about 77 = .ok (.iload 4, 2) := by decide +kernel
theorem dX0_about_79 : decode cX0_about 79 = .ok (.ireturn, 1) := by decide +kernel
theorem dX0_about_80 : decode cX0_about 80 = .ok (.iload 4, 2) := by decide +kernel
theorem dX0_about_82 : decode cX0_about 82 = .ok (.iload 5, 2) := by decide +kernel
theorem dX0_about_84 : decode cX0_about 84 = .ok (.isub, 1) := by decide +kernel
theorem dX0_about_85 : decode cX0_about 85 = .ok (.ireturn, 1) := by decide +kernel
theorem dX0_about_86 : decode cX0_about 86 = .ok (.iload 4, 2) := by decide +kernel
theorem dX0_about_88 : decode cX0_about 88 = .ok (.iload 5, 2) := by decide +kernel
theorem dX0_about_90 : decode cX0_about 90 = .ok (.iadd, 1) := by decide +kernel
theorem dX0_about_91 : decode cX0_about 91 = .ok (.ireturn, 1) := by decide +kernel
theorem dX0_about_92 : decode cX0_about 92 = .ok (.iload 5, 2) := by decide +kernel
theorem dX0_about_94 : decode cX0_about 94 = .ok (.aload_n 0, 1) := by decide +kernel
theorem dX0_about_95 : decode cX0_about 95 = .ok (.iload_n 1, 1) := by decide +kernel
theorem dX0_about_96 : decode cX0_about 96 = .ok (.aload_n 3, 1) := by decide +kernel
theorem dX0_about_97 : decode cX0_about 97 = .ok (.invokevirtual 65, 3) := by decide +kernel
theorem dX0_about_100 : decode cX0_about 100 = .ok (.if_icmp .gt 7, 3) := by decide +kernel
theorem dX0_about_103 : decode cX0_about 103 = .ok (.iconst 1, 1) := by decide +kernel
theorem dX0_about_104 : decode cX0_about 104 = .ok (.goto 4, 3) := by decide +kernel
theorem dX0_about_107 : decode cX0_about 107 = .ok (.iconst 0, 1) := by decide +kernel
theorem dX0_about_108 : decode cX0_about 108 = .ok (.ireturn, 1) := by decide +kernel
theorem cd_1 (G : ZG) (d : Nat) (K : ZKt) (F : ZFt) (hT : zt5 G.2.2.2) : CS G RX0 cX0_about 6 d K (some .int) [] (fun _ => []) 0 (bd_1 G.2.2.2 K F) := by
  unfold bd_1
  exact (CS.seq 8 (CS.decI (CX.pure (CE.callV (by decide) (CA.ref (CE.aload_n rfl dX0_about_0 zhd) (CA.int (CE.iload_n rfl dX0_about_1 zhd) (CA.ref (CE.aload_n rfl dX0_about_2 zhd) CA.nil))) zi_2 cv_X0_58 (fun _ => rfl) dX0_about_3 zhd)) (by decide) dX0_about_6 zhd)
  (CS.seq 16 (CS.decI (CX.pure (CE.callV (by decide) (CA.ref (CE.aload_n rfl dX0_about_8 zhd) (CA.int (CE.iload_n rfl dX0_about_9 zhd) (CA.ref (CE.aload_n rfl dX0_about_10 zhd) CA.nil))) zi_3 cv_X0_62 (fun _ => rfl) dX0_about_11 zhd)) (by decide) dX0_about_14 zhd)
  (CS.sw (qd := 92) (CX.pure (CE.iload_n rfl dX0_about_16 zhd)) dX0_about_17 rfl ⟨by decide, ⟨_, 56, rfl, rfl, (CS.retI (CX.pure (CE.aldI (CE.getR (CE.aload_n rfl dX0_about_56 zhd) fs_X0_9 dX0_about_57 zhd) (CE.iload_n rfl dX0_about_60 zhd) (Or.inl ⟨rfl, dX0_about_61⟩) zhd)) dX0_about_62)⟩, ⟨by decide, ⟨_, 63, rfl, rfl, (CS.retI (CX.pure (CE.aldI (CE.getR (CE.aload_n rfl dX0_about_63 zhd) fs_X0_15 dX0_about_64 zhd) (CE.iload_n rfl dX0_about_67 zhd) (Or.inl ⟨rfl, dX0_about_68⟩) zhd)) dX0_about_69)⟩, ⟨by decide, ⟨_, 70, rfl, rfl, (CS.retI (CX.pure (CE.aldI (CE.getR (CE.aload_n rfl dX0_about_70 zhd) fs_X0_18 dX0_about_71 zhd) (CE.iload_n rfl dX0_about_74 zhd) (Or.inl ⟨rfl, dX0_about_75⟩) zhd)) dX0_about_76)⟩, ⟨by decide, ⟨_, 77, rfl, rfl, (CS.retI (CX.pure (CE.iload dX0_about_77 zhd)) dX0_about_79)⟩, ⟨by decide, ⟨_, 80, rfl, rfl, (CS.retI (CX.pure (CE.isub (CE.iload dX0_about_80 zhd) (CE.iload dX0_about_82 zhd) dX0_about_84 zhd)) dX0_about_85)⟩, ⟨by decide, ⟨_, 86, rfl, rfl, (CS.retI (CX.pure (CE.iadd (CE.iload dX0_about_86 zhd) (CE.iload dX0_about_88 zhd) dX0_about_90 zhd)) dX0_about_91)⟩, trivial⟩⟩⟩⟩⟩⟩ rfl (CS.retI (CX.pure (CE.tern (T := 103) (F := 107) (p1 := 104) (q := 108) (CC.icmp_le_F (T := 103) (F := 107) (CE.iload dX0_about_92 zhd) (CE.callV (by decide) (CA.ref (CE.aload_n rfl dX0_about_94 zhd) (CA.int (CE.iload_n rfl dX0_about_95 zhd) (CA.ref (CE.aload_n rfl dX0_about_96 zhd) CA.nil))) zi_4 cv_X0_65 (fun _ => rfl) dX0_about_97 zhd) dX0_about_100 rfl rfl) (CE.iconst kI_1 dX0_about_103 zhd) zex2 dX0_about_104 rfl zhd (CE.iconst kI_0 dX0_about_107 zhd))) dX0_about_108))))
theorem dX0_gapOf_0 : decode cX0_gapOf 0 = .ok (.iconst 0, 1) := by decide +kernel
theorem dX0_gapOf_1 : decode cX0_gapOf 1 = .ok (.istore_n 3, 1) := by decide +kernel
theorem dX0_gapOf_2 : decode cX0_gapOf 2 = .ok (.iconst 0, 1) := by decide +kernel
theorem dX0_gapOf_3 : decode cX0_gapOf 3 = .ok (.istore 4, 2) := by decide +kernel
theorem dX0_gapOf_5 : decode cX0_gapOf 5 = .ok (.iload 4, 2) := by decide +kernel
theorem dX0_gapOf_7 : decode cX0_gapOf 7 = .ok (.aload_n 0, 1) := by decide +kernel
theorem dX0_gapOf_8 : decode cX0_gapOf 8 = .ok (.getfield 9, 3) := by decide +kernel
theorem dX0_gapOf_11 : decode cX0_gapOf 11 = .ok (.iload_n 1, 1) := by decide +kernel
theorem dX0_gapOf_12 : decode cX0_gapOf 12 = .ok (.iaload, 1) := by decide +kernel
theorem dX0_gapOf_13 : decode cX0_gapOf 13 = .ok (.if_icmp .ge 35, 3) := by decide +kernel
theorem dX0_gapOf_16 : decode cX0_gapOf 16 = .ok (.iload_n 3, 1) := by decide +kernel
theorem dX0_gapOf_17 : decode cX0_gapOf 17 = .ok (.aload_n 0, 1) := by decide +kernel
theorem dX0_gapOf_18 : decode cX0_gapOf 18 = .ok (.getfield 23, 3) := by decide +kernel
theorem dX0_gapOf_21 : decode cX0_gapOf 21 = .ok (.iload_n 1, 1) := by decide +kernel
theorem dX0_gapOf_22 : decode cX0_gapOf 22 = .ok (.aaload, 1) := by decide +kernel
theorem dX0_gapOf_23 : decode cX0_gapOf 23 = .ok (.iload 4, 2) := by decide +kernel
theorem dX0_gapOf_25 : decode cX0_gapOf 25 = .ok (.iaload, 1) := by decide +kernel
theorem dX0_gapOf_26 : decode cX0_gapOf 26 = .ok (.aload_n 2, 1) := by decide +kernel
theorem dX0_gapOf_27 : decode cX0_gapOf 27 = .ok (.aload_n 0, 1) := by decide +kernel
theorem dX0_gapOf_28 : decode cX0_gapOf 28 = .ok (.getfield 26, 3) := by decide +kernel
theorem dX0_gapOf_31 : decode cX0_gapOf 31 = .ok (.iload_n 1, 1) := by decide +kernel
theorem dX0_gapOf_32 : decode cX0_gapOf 32 = .ok (.aaload, 1) := by decide +kernel
theorem dX0_gapOf_33 : decode cX0_gapOf 33 = .ok (.iload 4, 2) := by decide +kernel
theorem dX0_gapOf_35 : decode cX0_gapOf 35 = .ok (.iaload, 1) := by decide +kernel
theorem dX0_gapOf_36 : decode cX0_gapOf 36 = .ok (.invokevirtual 68, 3) := by decide +kernel
theorem dX0_gapOf_39 : decode cX0_gapOf 39 = .ok (.imul, 1) := by decide +kernel
theorem dX0_gapOf_40 : decode cX0_gapOf 40 = .ok (.iadd, 1) := by decide +kernel
theorem dX0_gapOf_41 : decode cX0_gapOf 41 = .ok (.istore_n 3, 1) := by decide +kernel
theorem dX0_gapOf_42 : decode cX0_gapOf 42 = .ok (.iinc 4 1, 3) := by decide +kernel
theorem dX0_gapOf_45 : decode cX0_gapOf 45 = .ok (.goto (-40), 3) := by decide +kernel
theorem dX0_gapOf_48 : decode cX0_gapOf 48 = .ok (.iload_n 3, 1) := by decide +kernel
theorem dX0_gapOf_49 : decode cX0_gapOf 49 = .ok (.ireturn, 1) := by decide +kernel
theorem cd_2 (G : ZG) (d : Nat) (K : ZKt) (F : ZFt) (hT : zt5 G.2.2.2) : CS G RX0 cX0_gapOf 5 d K (some .int) [] (fun _ => []) 0 (bd_2 G.2.2.2 K F) := by
  unfold bd_2
  exact (CS.seq 2 (CS.decI_n (CX.pure (CE.iconst kI_0 dX0_gapOf_0 zhd)) rfl (by decide) dX0_gapOf_1 zhd)
  (CS.seq 48 (CS.scope (CS.seq 5 (CS.decI (CX.pure (CE.iconst kI_0 dX0_gapOf_2 zhd)) (by decide) dX0_gapOf_3 zhd)
  (CS.whl (T := 16) (F := 48) (p1 := 45) (CD.pure (CC.icmp_lt_F (T := 16) (F := 48) (CE.iload dX0_gapOf_5 zhd) (CE.aldI (CE.getR (CE.aload_n rfl dX0_gapOf_7 zhd) fs_X0_9 dX0_gapOf_8 zhd) (CE.iload_n rfl dX0_gapOf_11 zhd) (Or.inl ⟨rfl, dX0_gapOf_12⟩) zhd) dX0_gapOf_13 rfl rfl))
  (CS.seq 42 (CS.setI_n (CX.pure (CE.iadd (CE.iload_n rfl dX0_gapOf_16 zhd) (CE.imul (CE.aldI (CE.aldR (CE.getR (CE.aload_n rfl dX0_gapOf_17 zhd) fs_X0_23 dX0_gapOf_18 zhd) (CE.iload_n rfl dX0_gapOf_21 zhd) dX0_gapOf_22 zhd) (CE.iload dX0_gapOf_23 zhd) (Or.inl ⟨rfl, dX0_gapOf_25⟩) zhd) (CE.callV (by decide) (CA.ref (CE.aload_n rfl dX0_gapOf_26 zhd) (CA.int (CE.aldI (CE.aldR (CE.getR (CE.aload_n rfl dX0_gapOf_27 zhd) fs_X0_26 dX0_gapOf_28 zhd) (CE.iload_n rfl dX0_gapOf_31 zhd) dX0_gapOf_32 zhd) (CE.iload dX0_gapOf_33 zhd) (Or.inl ⟨rfl, dX0_gapOf_35⟩) zhd) CA.nil)) zi_14 cv_X0_68 (fun _ => rfl) dX0_gapOf_36 zhd) dX0_gapOf_39 zhd) dX0_gapOf_40 zhd)) rfl (by decide) dX0_gapOf_41 zhd)
  (CS.inc kI_1 (by decide) dX0_gapOf_42 zhd)) dX0_gapOf_45 rfl zhd)))
  (CS.retI (CX.pure (CE.iload_n rfl dX0_gapOf_48 zhd)) dX0_gapOf_49)))
theorem dX0_spansOf_0 : decode cX0_spansOf 0 = .ok (.iconst 0, 1) := by decide +kernel
theorem dX0_spansOf_1 : decode cX0_spansOf 1 = .ok (.istore_n 3, 1) := by decide +kernel
theorem dX0_spansOf_2 : decode cX0_spansOf 2 = .ok (.iconst 0, 1) := by decide +kernel
theorem dX0_spansOf_3 : decode cX0_spansOf 3 = .ok (.istore 4, 2) := by decide +kernel
theorem dX0_spansOf_5 : decode cX0_spansOf 5 = .ok (.iload 4, 2) := by decide +kernel
theorem dX0_spansOf_7 : decode cX0_spansOf 7 = .ok (.aload_n 0, 1) := by decide +kernel
theorem dX0_spansOf_8 : decode cX0_spansOf 8 = .ok (.getfield 9, 3) := by decide +kernel
theorem dX0_spansOf_11 : decode cX0_spansOf 11 = .ok (.iload_n 1, 1) := by decide +kernel
theorem dX0_spansOf_12 : decode cX0_spansOf 12 = .ok (.iaload, 1) := by decide +kernel
theorem dX0_spansOf_13 : decode cX0_spansOf 13 = .ok (.if_icmp .ge 31, 3) := by decide +kernel
theorem dX0_spansOf_16 : decode cX0_spansOf 16 = .ok (.iload_n 3, 1) := by decide +kernel
theorem dX0_spansOf_17 : decode cX0_spansOf 17 = .ok (.aload_n 2, 1) := by decide +kernel
theorem dX0_spansOf_18 : decode cX0_spansOf 18 = .ok (.getfield 74, 3) := by decide +kernel
theorem dX0_spansOf_21 : decode cX0_spansOf 21 = .ok (.aload_n 2, 1) := by decide +kernel
theorem dX0_spansOf_22 : decode cX0_spansOf 22 = .ok (.getfield 77, 3) := by decide +kernel
theorem dX0_spansOf_25 : decode cX0_spansOf 25 = .ok (.aload_n 0, 1) := by decide +kernel
theorem dX0_spansOf_26 : decode cX0_spansOf 26 = .ok (.getfield 26, 3) := by decide +kernel
theorem dX0_spansOf_29 : decode cX0_spansOf 29 = .ok (.iload_n 1, 1) := by decide +kernel
theorem dX0_spansOf_30 : decode cX0_spansOf 30 = .ok (.aaload, 1) := by decide +kernel
theorem dX0_spansOf_31 : decode cX0_spansOf 31 = .ok (.iload 4, 2) := by decide +kernel
theorem dX0_spansOf_33 : decode cX0_spansOf 33 = .ok (.iaload, 1) := by decide +kernel
theorem dX0_spansOf_34 : decode cX0_spansOf 34 = .ok (.iaload, 1) := by decide +kernel
theorem dX0_spansOf_35 : decode cX0_spansOf 35 = .ok (.iaload, 1) := by decide +kernel
theorem dX0_spansOf_36 : decode cX0_spansOf 36 = .ok (.iadd, 1) := by decide +kernel
theorem dX0_spansOf_37 : decode cX0_spansOf 37 = .ok (.istore_n 3, 1) := by decide +kernel
theorem dX0_spansOf_38 : decode cX0_spansOf 38 = .ok (.iinc 4 1, 3) := by decide +kernel
theorem dX0_spansOf_41 : decode cX0_spansOf 41 = .ok (.goto (-36), 3) := by decide +kernel
theorem dX0_spansOf_44 : decode cX0_spansOf 44 = .ok (.iload_n 3, 1) := by decide +kernel
theorem dX0_spansOf_45 : decode cX0_spansOf 45 = .ok (.ireturn, 1) := by decide +kernel
theorem cd_3 (G : ZG) (d : Nat) (K : ZKt) (F : ZFt) (hT : zt5 G.2.2.2) : CS G RX0 cX0_spansOf 5 d K (some .int) [] (fun _ => []) 0 (bd_3 G.2.2.2 K F) := by
  unfold bd_3
  exact (CS.seq 2 (CS.decI_n (CX.pure (CE.iconst kI_0 dX0_spansOf_0 zhd)) rfl (by decide) dX0_spansOf_1 zhd)
  (CS.seq 44 (CS.scope (CS.seq 5 (CS.decI (CX.pure (CE.iconst kI_0 dX0_spansOf_2 zhd)) (by decide) dX0_spansOf_3 zhd)
  (CS.whl (T := 16) (F := 44) (p1 := 41) (CD.pure (CC.icmp_lt_F (T := 16) (F := 44) (CE.iload dX0_spansOf_5 zhd) (CE.aldI (CE.getR (CE.aload_n rfl dX0_spansOf_7 zhd) fs_X0_9 dX0_spansOf_8 zhd) (CE.iload_n rfl dX0_spansOf_11 zhd) (Or.inl ⟨rfl, dX0_spansOf_12⟩) zhd) dX0_spansOf_13 rfl rfl))
  (CS.seq 38 (CS.setI_n (CX.pure (CE.iadd (CE.iload_n rfl dX0_spansOf_16 zhd) (CE.aldI (CE.getR (CE.aload_n rfl dX0_spansOf_17 zhd) fs_X0_74 dX0_spansOf_18 zhd) (CE.aldI (CE.getR (CE.aload_n rfl dX0_spansOf_21 zhd) fs_X0_77 dX0_spansOf_22 zhd) (CE.aldI (CE.aldR (CE.getR (CE.aload_n rfl dX0_spansOf_25 zhd) fs_X0_26 dX0_spansOf_26 zhd) (CE.iload_n rfl dX0_spansOf_29 zhd) dX0_spansOf_30 zhd) (CE.iload dX0_spansOf_31 zhd) (Or.inl ⟨rfl, dX0_spansOf_33⟩) zhd) (Or.inl ⟨rfl, dX0_spansOf_34⟩) zhd) (Or.inl ⟨rfl, dX0_spansOf_35⟩) zhd) dX0_spansOf_36 zhd)) rfl (by decide) dX0_spansOf_37 zhd)
  (CS.inc kI_1 (by decide) dX0_spansOf_38 zhd)) dX0_spansOf_41 rfl zhd)))
  (CS.retI (CX.pure (CE.iload_n rfl dX0_spansOf_44 zhd)) dX0_spansOf_45)))
theorem dX0_roomOf_0 : decode cX0_roomOf 0 = .ok (.aload_n 0, 1) := by decide +kernel
theorem dX0_roomOf_1 : decode cX0_roomOf 1 = .ok (.iload_n 1, 1) := by decide +kernel
theorem dX0_roomOf_2 : decode cX0_roomOf 2 = .ok (.aload_n 2, 1) := by decide +kernel
theorem dX0_roomOf_3 : decode cX0_roomOf 3 = .ok (.invokevirtual 58, 3) := by decide +kernel
theorem dX0_roomOf_6 : decode cX0_roomOf 6 = .ok (.istore_n 3, 1) := by decide +kernel
theorem dX0_roomOf_7 : decode cX0_roomOf 7 = .ok (.iload_n 3, 1) := by decide +kernel
theorem dX0_roomOf_8 : decode cX0_roomOf 8 = .ok (.aload_n 0, 1) := by decide +kernel
theorem dX0_roomOf_9 : decode cX0_roomOf 9 = .ok (.getfield 15, 3) := by decide +kernel
theorem dX0_roomOf_12 : decode cX0_roomOf 12 = .ok (.iload_n 1, 1) := by decide +kernel
theorem dX0_roomOf_13 : decode cX0_roomOf 13 = .ok (.iaload, 1) := by decide +kernel
theorem dX0_roomOf_14 : decode cX0_roomOf 14 = .ok (.isub, 1) := by decide +kernel
theorem dX0_roomOf_15 : decode cX0_roomOf 15 = .ok (.aload_n 0, 1) := by decide +kernel
theorem dX0_roomOf_16 : decode cX0_roomOf 16 = .ok (.getfield 18, 3) := by decide +kernel
theorem dX0_roomOf_19 : decode cX0_roomOf 19 = .ok (.iload_n 1, 1) := by decide +kernel
theorem dX0_roomOf_20 : decode cX0_roomOf 20 = .ok (.iaload, 1) := by decide +kernel
theorem dX0_roomOf_21 : decode cX0_roomOf 21 = .ok (.iload_n 3, 1) := by decide +kernel
theorem dX0_roomOf_22 : decode cX0_roomOf 22 = .ok (.isub, 1) := by decide +kernel
theorem dX0_roomOf_23 : decode cX0_roomOf 23 = .ok (.invokestatic 80, 3) := by decide +kernel
theorem dX0_roomOf_26 : decode cX0_roomOf 26 = .ok (.ireturn, 1) := by decide +kernel
theorem cd_4 (G : ZG) (d : Nat) (K : ZKt) (F : ZFt) (hT : zt5 G.2.2.2) : CS G RX0 cX0_roomOf 4 d K (some .int) [] (fun _ => []) 0 (bd_4 G.2.2.2 K F) := by
  unfold bd_4
  exact (CS.seq 7 (CS.decI_n (CX.pure (CE.callV (by decide) (CA.ref (CE.aload_n rfl dX0_roomOf_0 zhd) (CA.int (CE.iload_n rfl dX0_roomOf_1 zhd) (CA.ref (CE.aload_n rfl dX0_roomOf_2 zhd) CA.nil))) zi_2 cv_X0_58 (fun _ => rfl) dX0_roomOf_3 zhd)) rfl (by decide) dX0_roomOf_6 zhd)
  (CS.retI (CX.pure (CE.mmin (by decide) (CE.isub (CE.iload_n rfl dX0_roomOf_7 zhd) (CE.aldI (CE.getR (CE.aload_n rfl dX0_roomOf_8 zhd) fs_X0_15 dX0_roomOf_9 zhd) (CE.iload_n rfl dX0_roomOf_12 zhd) (Or.inl ⟨rfl, dX0_roomOf_13⟩) zhd) dX0_roomOf_14 zhd) (CE.isub (CE.aldI (CE.getR (CE.aload_n rfl dX0_roomOf_15 zhd) fs_X0_18 dX0_roomOf_16 zhd) (CE.iload_n rfl dX0_roomOf_19 zhd) (Or.inl ⟨rfl, dX0_roomOf_20⟩) zhd) (CE.iload_n rfl dX0_roomOf_21 zhd) dX0_roomOf_22 zhd) mm_X0_80 dX0_roomOf_23 zhd)) dX0_roomOf_26))
theorem dX0_timesOf_0 : decode cX0_timesOf 0 = .ok (.iconst 0, 1) := by decide +kernel
theorem dX0_timesOf_1 : decode cX0_timesOf 1 = .ok (.istore_n 3, 1) := by decide +kernel
theorem dX0_timesOf_2 : decode cX0_timesOf 2 = .ok (.iconst 0, 1) := by decide +kernel
theorem dX0_timesOf_3 : decode cX0_timesOf 3 = .ok (.istore 4, 2) := by decide +kernel
theorem dX0_timesOf_5 : decode cX0_timesOf 5 = .ok (.iload 4, 2) := by decide +kernel
theorem dX0_timesOf_7 : decode cX0_timesOf 7 = .ok (.aload_n 0, 1) := by decide +kernel
theorem dX0_timesOf_8 : decode cX0_timesOf 8 = .ok (.getfield 9, 3) := by decide +kernel
theorem dX0_timesOf_11 : decode cX0_timesOf 11 = .ok (.iload_n 1, 1) := by decide +kernel
theorem dX0_timesOf_12 : decode cX0_timesOf 12 = .ok (.iaload, 1) := by decide +kernel
theorem dX0_timesOf_13 : decode cX0_timesOf 13 = .ok (.if_icmp .ge 25, 3) := by decide +kernel
theorem dX0_timesOf_16 : decode cX0_timesOf 16 = .ok (.aload_n 0, 1) := by decide +kernel
theorem dX0_timesOf_17 : decode cX0_timesOf 17 = .ok (.getfield 26, 3) := by decide +kernel
theorem dX0_timesOf_20 : decode cX0_timesOf 20 = .ok (.iload_n 1, 1) := by decide +kernel
theorem dX0_timesOf_21 : decode cX0_timesOf 21 = .ok (.aaload, 1) := by decide +kernel
theorem dX0_timesOf_22 : decode cX0_timesOf 22 = .ok (.iload 4, 2) := by decide +kernel
theorem dX0_timesOf_24 : decode cX0_timesOf 24 = .ok (.iaload, 1) := by decide +kernel
theorem dX0_timesOf_25 : decode cX0_timesOf 25 = .ok (.iload_n 2, 1) := by decide +kernel
theorem dX0_timesOf_26 : decode cX0_timesOf 26 = .ok (.if_icmp .ne 6, 3) := by decide +kernel
theorem dX0_timesOf_29 : decode cX0_timesOf 29 = .ok (.iinc 3 1, 3) := by decide +kernel
theorem dX0_timesOf_32 : decode cX0_timesOf 32 = .ok (.iinc 4 1, 3) := by decide +kernel
theorem dX0_timesOf_35 : decode cX0_timesOf 35 = .ok (.goto (-30), 3) := by decide +kernel
theorem dX0_timesOf_38 : decode cX0_timesOf 38 = .ok (.iload_n 3, 1) := by decide +kernel
theorem dX0_timesOf_39 : decode cX0_timesOf 39 = .ok (.ireturn, 1) := by decide +kernel
theorem cd_5 (G : ZG) (d : Nat) (K : ZKt) (F : ZFt) (hT : zt5 G.2.2.2) : CS G RX0 cX0_timesOf 5 d K (some .int) [] (fun _ => []) 0 (bd_5 G.2.2.2 K F) := by
  unfold bd_5
  exact (CS.seq 2 (CS.decI_n (CX.pure (CE.iconst kI_0 dX0_timesOf_0 zhd)) rfl (by decide) dX0_timesOf_1 zhd)
  (CS.seq 38 (CS.scope (CS.seq 5 (CS.decI (CX.pure (CE.iconst kI_0 dX0_timesOf_2 zhd)) (by decide) dX0_timesOf_3 zhd)
  (CS.whl (T := 16) (F := 38) (p1 := 35) (CD.pure (CC.icmp_lt_F (T := 16) (F := 38) (CE.iload dX0_timesOf_5 zhd) (CE.aldI (CE.getR (CE.aload_n rfl dX0_timesOf_7 zhd) fs_X0_9 dX0_timesOf_8 zhd) (CE.iload_n rfl dX0_timesOf_11 zhd) (Or.inl ⟨rfl, dX0_timesOf_12⟩) zhd) dX0_timesOf_13 rfl rfl))
  (CS.seq 32 (CS.if1 (T := 29) (F := 32) (CD.pure (CC.icmp_eq_F (T := 29) (F := 32) (CE.aldI (CE.aldR (CE.getR (CE.aload_n rfl dX0_timesOf_16 zhd) fs_X0_26 dX0_timesOf_17 zhd) (CE.iload_n rfl dX0_timesOf_20 zhd) dX0_timesOf_21 zhd) (CE.iload dX0_timesOf_22 zhd) (Or.inl ⟨rfl, dX0_timesOf_24⟩) zhd) (CE.iload_n rfl dX0_timesOf_25 zhd) dX0_timesOf_26 rfl rfl)) (CS.inc kI_1 (by decide) dX0_timesOf_29 zhd) zhd)
  (CS.inc kI_1 (by decide) dX0_timesOf_32 zhd)) dX0_timesOf_35 rfl zhd)))
  (CS.retI (CX.pure (CE.iload_n rfl dX0_timesOf_38 zhd)) dX0_timesOf_39)))
theorem dX0_oddsOf_0 : decode cX0_oddsOf 0 = .ok (.aload_n 0, 1) := by decide +kernel
theorem dX0_oddsOf_1 : decode cX0_oddsOf 1 = .ok (.iload_n 1, 1) := by decide +kernel
theorem dX0_oddsOf_2 : decode cX0_oddsOf 2 = .ok (.aload_n 3, 1) := by decide +kernel
theorem dX0_oddsOf_3 : decode cX0_oddsOf 3 = .ok (.invokevirtual 86, 3) := by decide +kernel
theorem dX0_oddsOf_6 : decode cX0_oddsOf 6 = .ok (.aload_n 0, 1) := by decide +kernel
theorem dX0_oddsOf_7 : decode cX0_oddsOf 7 = .ok (.iload_n 1, 1) := by decide +kernel
theorem dX0_oddsOf_8 : decode cX0_oddsOf 8 = .ok (.aload_n 3, 1) := by decide +kernel
theorem dX0_oddsOf_9 : decode cX0_oddsOf 9 = .ok (.invokevirtual 58, 3) := by decide +kernel
theorem dX0_oddsOf_12 : decode cX0_oddsOf 12 = .ok (.istore 4, 2) := by decide +kernel
theorem dX0_oddsOf_14 : decode cX0_oddsOf 14 = .ok (.lconst 0, 1) := by decide +kernel
theorem dX0_oddsOf_15 : decode cX0_oddsOf 15 = .ok (.lstore 5, 2) := by decide +kernel
theorem dX0_oddsOf_17 : decode cX0_oddsOf 17 = .ok (.lconst 0, 1) := by decide +kernel
theorem dX0_oddsOf_18 : decode cX0_oddsOf 18 = .ok (.lstore 7, 2) := by decide +kernel
theorem dX0_oddsOf_20 : decode cX0_oddsOf 20 = .ok (.iconst 0, 1) := by decide +kernel
theorem dX0_oddsOf_21 : decode cX0_oddsOf 21 = .ok (.istore 9, 2) := by decide +kernel
theorem dX0_oddsOf_23 : decode cX0_oddsOf 23 = .ok (.iload 9, 2) := by decide +kernel
theorem dX0_oddsOf_25 : decode cX0_oddsOf 25 = .ok (.aload_n 0, 1) := by decide +kernel
theorem dX0_oddsOf_26 : decode cX0_oddsOf 26 = .ok (.getfield 29, 3) := by decide +kernel
theorem dX0_oddsOf_29 : decode cX0_oddsOf 29 = .ok (.arraylength, 1) := by decide +kernel
theorem dX0_oddsOf_30 : decode cX0_oddsOf 30 = .ok (.if_icmp .ge 59, 3) := by decide +kernel
theorem dX0_oddsOf_33 : decode cX0_oddsOf 33 = .ok (.lload 7, 2) := by decide +kernel
theorem dX0_oddsOf_35 : decode cX0_oddsOf 35 = .ok (.aload_n 0, 1) := by decide +kernel
theorem dX0_oddsOf_36 : decode cX0_oddsOf 36 = .ok (.getfield 29, 3) := by decide +kernel
theorem dX0_oddsOf_39 : decode cX0_oddsOf 39 = .ok (.iload 9, 2) := by decide +kernel
theorem dX0_oddsOf_41 : decode cX0_oddsOf 41 = .ok (.laload, 1) := by decide +kernel
theorem dX0_oddsOf_42 : decode cX0_oddsOf 42 = .ok (.ladd, 1) := by decide +kernel
theorem dX0_oddsOf_43 : decode cX0_oddsOf 43 = .ok (.lstore 7, 2) := by decide +kernel
theorem dX0_oddsOf_45 : decode cX0_oddsOf 45 = .ok (.iload 4, 2) := by decide +kernel
theorem dX0_oddsOf_47 : decode cX0_oddsOf 47 = .ok (.iload 9, 2) := by decide +kernel
theorem dX0_oddsOf_49 : decode cX0_oddsOf 49 = .ok (.iadd, 1) := by decide +kernel
theorem dX0_oddsOf_50 : decode cX0_oddsOf 50 = .ok (.bipush 24, 2) := by decide +kernel
theorem dX0_oddsOf_52 : decode cX0_oddsOf 52 = .ok (.isub, 1) := by decide +kernel
theorem dX0_oddsOf_53 : decode cX0_oddsOf 53 = .ok (.aload_n 0, 1) := by decide +kernel
theorem dX0_oddsOf_54 : decode cX0_oddsOf 54 = .ok (.getfield 15, 3) := by decide +kernel
theorem dX0_oddsOf_57 : decode cX0_oddsOf 57 = .ok (.iload_n 1, 1) := by decide +kernel
theorem dX0_oddsOf_58 : decode cX0_oddsOf 58 = .ok (.iaload, 1) := by decide +kernel
theorem dX0_oddsOf_59 : decode cX0_oddsOf 59 = .ok (.aload_n 0, 1) := by decide +kernel
theorem dX0_oddsOf_60 : decode cX0_oddsOf 60 = .ok (.getfield 18, 3) := by decide +kernel
theorem dX0_oddsOf_63 : decode cX0_oddsOf 63 = .ok (.iload_n 1, 1) := by decide +kernel
theorem dX0_oddsOf_64 : decode cX0_oddsOf 64 = .ok (.iaload, 1) := by decide +kernel
theorem dX0_oddsOf_65 : decode cX0_oddsOf 65 = .ok (.invokestatic 90, 3) := by decide +kernel
theorem dX0_oddsOf_68 : decode cX0_oddsOf 68 = .ok (.ifCond .eq 15, 3) := by decide +kernel
theorem dX0_oddsOf_71 : decode cX0_oddsOf 71 = .ok (.lload 5, 2) := by decide +kernel
theorem dX0_oddsOf_73 : decode cX0_oddsOf 73 = .ok (.aload_n 0, 1) := by decide +kernel
theorem dX0_oddsOf_74 : decode cX0_oddsOf 74 = .ok (.getfield 29, 3) := by decide +kernel
theorem dX0_oddsOf_77 : decode cX0_oddsOf 77 = .ok (.iload 9, 2) := by decide +kernel
theorem dX0_oddsOf_79 : decode cX0_oddsOf 79 = .ok (.laload, 1) := by decide +kernel
theorem dX0_oddsOf_80 : decode cX0_oddsOf 80 = .ok (.ladd, 1) := by decide +kernel
theorem dX0_oddsOf_81 : decode cX0_oddsOf 81 = .ok (.lstore 5, 2) := by decide +kernel
theorem dX0_oddsOf_83 : decode cX0_oddsOf 83 = .ok (.iinc 9 1, 3) := by decide +kernel
theorem dX0_oddsOf_86 : decode cX0_oddsOf 86 = .ok (.goto (-63), 3) := by decide +kernel
theorem dX0_oddsOf_89 : decode cX0_oddsOf 89 = .ok (.lload 7, 2) := by decide +kernel
theorem dX0_oddsOf_91 : decode cX0_oddsOf 91 = .ok (.lload 5, 2) := by decide +kernel
theorem dX0_oddsOf_93 : decode cX0_oddsOf 93 = .ok (.invokestatic 94, 3) := by decide +kernel
theorem dX0_oddsOf_96 : decode cX0_oddsOf 96 = .ok (.lstore 9, 2) := by decide +kernel
theorem dX0_oddsOf_98 : decode cX0_oddsOf 98 = .ok (.lload 9, 2) := by decide +kernel
theorem dX0_oddsOf_100 : decode cX0_oddsOf 100 = .ok (.lconst 0, 1) := by decide +kernel
theorem dX0_oddsOf_101 : decode cX0_oddsOf 101 = .ok (.lcmp, 1) := by decide +kernel
theorem dX0_oddsOf_102 : decode cX0_oddsOf 102 = .ok (.ifCond .ne 7, 3) := by decide +kernel
theorem dX0_oddsOf_105 : decode cX0_oddsOf 105 = .ok (.ldc2_w 98, 3) := by decide +kernel
theorem dX0_oddsOf_108 : decode cX0_oddsOf 108 = .ok (.lreturn, 1) := by decide +kernel
theorem dX0_oddsOf_109 : decode cX0_oddsOf 109 = .ok (.iload_n 2, 1) := by decide +kernel
theorem dX0_oddsOf_110 : decode cX0_oddsOf 110 = .ok (.ifCond .ne 11, 3) := by decide +kernel
theorem dX0_oddsOf_113 : decode cX0_oddsOf 113 = .ok (.lload 5, 2) := by decide +kernel
theorem dX0_oddsOf_115 : decode cX0_oddsOf 115 = .ok (.lload 9, 2) := by decide +kernel
theorem dX0_oddsOf_117 : decode cX0_oddsOf 117 = .ok (.ldiv, 1) := by decide +kernel
theorem dX0_oddsOf_118 : decode cX0_oddsOf 118 = .ok (.goto 8, 3) := by decide +kernel
theorem dX0_oddsOf_121 : decode cX0_oddsOf 121 = .ok (.lload 7, 2) := by decide +kernel
theorem dX0_oddsOf_123 : decode cX0_oddsOf 123 = .ok (.lload 9, 2) := by decide +kernel
theorem dX0_oddsOf_125 : decode cX0_oddsOf 125 = .ok (.ldiv, 1) := by decide +kernel
theorem dX0_oddsOf_126 : decode cX0_oddsOf 126 = .ok (.lreturn, 1) := by decide +kernel
theorem cd_6 (G : ZG) (d : Nat) (K : ZKt) (F : ZFt) (hT : zt5 G.2.2.2) : CS G RX0 cX0_oddsOf 11 d K (some .long) [] (fun _ => []) 0 (bd_6 G.2.2.2 K F) := by
  unfold bd_6
  exact (CS.seq 6 (CS.callV (CA.ref (CE.aload_n rfl dX0_oddsOf_0 zhd) (CA.int (CE.iload_n rfl dX0_oddsOf_1 zhd) (CA.ref (CE.aload_n rfl dX0_oddsOf_2 zhd) CA.nil))) zi_7 cv_X0_86 (fun _ => rfl) dX0_oddsOf_3 zhd)
  (CS.seq 14 (CS.decI (CX.pure (CE.callV (by decide) (CA.ref (CE.aload_n rfl dX0_oddsOf_6 zhd) (CA.int (CE.iload_n rfl dX0_oddsOf_7 zhd) (CA.ref (CE.aload_n rfl dX0_oddsOf_8 zhd) CA.nil))) zi_2 cv_X0_58 (fun _ => rfl) dX0_oddsOf_9 zhd)) (by decide) dX0_oddsOf_12 zhd)
  (CS.seq 17 (CS.decL (CX.pure (CE.lconst kJ_0 dX0_oddsOf_14 zhd)) (by decide) dX0_oddsOf_15 zhd)
  (CS.seq 20 (CS.decL (CX.pure (CE.lconst kJ_0 dX0_oddsOf_17 zhd)) (by decide) dX0_oddsOf_18 zhd)
  (CS.seq 89 (CS.scope (CS.seq 23 (CS.decI (CX.pure (CE.iconst kI_0 dX0_oddsOf_20 zhd)) (by decide) dX0_oddsOf_21 zhd)
  (CS.whl (T := 33) (F := 89) (p1 := 86) (CD.pure (CC.icmp_lt_F (T := 33) (F := 89) (CE.iload dX0_oddsOf_23 zhd) (CE.alen (CE.getR (CE.aload_n rfl dX0_oddsOf_25 zhd) fs_X0_29 dX0_oddsOf_26 zhd) dX0_oddsOf_29 zhd hT) dX0_oddsOf_30 rfl rfl))
  (CS.seq 83 (CS.seq 45 (CS.setL (CX.pure (CE.ladd (CE.lload dX0_oddsOf_33 zhd) (CE.aldL (CE.getR (CE.aload_n rfl dX0_oddsOf_35 zhd) fs_X0_29 dX0_oddsOf_36 zhd) (CE.iload dX0_oddsOf_39 zhd) dX0_oddsOf_41 zhd) dX0_oddsOf_42 zhd)) (by decide) dX0_oddsOf_43 zhd)
  (CS.if1 (T := 71) (F := 83) (CD.pure (CC.if_ne_F (T := 71) (F := 83) (CE.callS (by decide) (CA.int (CE.isub (CE.iadd (CE.iload dX0_oddsOf_45 zhd) (CE.iload dX0_oddsOf_47 zhd) dX0_oddsOf_49 zhd) (CE.bipush kB_24 dX0_oddsOf_50 zhd) dX0_oddsOf_52 zhd) (CA.int (CE.aldI (CE.getR (CE.aload_n rfl dX0_oddsOf_53 zhd) fs_X0_15 dX0_oddsOf_54 zhd) (CE.iload_n rfl dX0_oddsOf_57 zhd) (Or.inl ⟨rfl, dX0_oddsOf_58⟩) zhd) (CA.int (CE.aldI (CE.getR (CE.aload_n rfl dX0_oddsOf_59 zhd) fs_X0_18 dX0_oddsOf_60 zhd) (CE.iload_n rfl dX0_oddsOf_63 zhd) (Or.inl ⟨rfl, dX0_oddsOf_64⟩) zhd) CA.nil))) zi_130 cs_X0_90 (fun _ => rfl) dX0_oddsOf_65 zhd) dX0_oddsOf_68 rfl rfl)) (CS.setL (CX.pure (CE.ladd (CE.lload dX0_oddsOf_71 zhd) (CE.aldL (CE.getR (CE.aload_n rfl dX0_oddsOf_73 zhd) fs_X0_29 dX0_oddsOf_74 zhd) (CE.iload dX0_oddsOf_77 zhd) dX0_oddsOf_79 zhd) dX0_oddsOf_80 zhd)) (by decide) dX0_oddsOf_81 zhd) zhd))
  (CS.inc kI_1 (by decide) dX0_oddsOf_83 zhd)) dX0_oddsOf_86 rfl zhd)))
  (CS.seq 98 (CS.decL (CX.pure (CE.callS (by decide) (CA.long (CE.lload dX0_oddsOf_89 zhd) (CA.long (CE.lload dX0_oddsOf_91 zhd) CA.nil)) zi_9 cs_X0_94 (fun _ => rfl) dX0_oddsOf_93 zhd)) (by decide) dX0_oddsOf_96 zhd)
  (CS.seq 109 (CS.if1 (T := 105) (F := 109) (CD.pure (CC.lcmp_eq_F (T := 105) (F := 109) (CE.lload dX0_oddsOf_98 zhd) (CE.lconst kJ_0 dX0_oddsOf_100 zhd) dX0_oddsOf_101 dX0_oddsOf_102 rfl rfl)) (CS.retL (CX.pure (CE.ldc2 lc_X0_98 dX0_oddsOf_105 zhd)) dX0_oddsOf_108) zhd)
  (CS.retL (CX.pure (CE.tern (T := 113) (F := 121) (p1 := 118) (q := 126) (CC.if_eq_F (T := 113) (F := 121) (CE.iload_n rfl dX0_oddsOf_109 zhd) dX0_oddsOf_110 rfl rfl) (CE.ldiv (CE.lload dX0_oddsOf_113 zhd) (CE.lload dX0_oddsOf_115 zhd) dX0_oddsOf_117 zhd) zex2 dX0_oddsOf_118 rfl zhd (CE.ldiv (CE.lload dX0_oddsOf_121 zhd) (CE.lload dX0_oddsOf_123 zhd) dX0_oddsOf_125 zhd))) dX0_oddsOf_126))))))))
theorem dX0_spread_0 : decode cX0_spread 0 = .ok (.aload_n 0, 1) := by decide +kernel
theorem dX0_spread_1 : decode cX0_spread 1 = .ok (.getfield 29, 3) := by decide +kernel
theorem dX0_spread_4 : decode cX0_spread 4 = .ok (.lconst 0, 1) := by decide +kernel
theorem dX0_spread_5 : decode cX0_spread 5 = .ok (.invokestatic 100, 3) := by decide +kernel
theorem dX0_spread_8 : decode cX0_spread 8 = .ok (.aload_n 0, 1) := by decide +kernel
theorem dX0_spread_9 : decode cX0_spread 9 = .ok (.getfield 29, 3) := by decide +kernel
theorem dX0_spread_12 : decode cX0_spread 12 = .ok (.bipush 24, 2) := by decide +kernel
theorem dX0_spread_14 : decode cX0_spread 14 = .ok (.lconst 1, 1) := by decide +kernel
theorem dX0_spread_15 : decode cX0_spread 15 = .ok (.lastore, 1) := by decide +kernel
theorem dX0_spread_16 : decode cX0_spread 16 = .ok (.iconst 0, 1) := by decide +kernel
theorem dX0_spread_17 : decode cX0_spread 17 = .ok (.istore_n 3, 1) := by decide +kernel
theorem dX0_spread_18 : decode cX0_spread 18 = .ok (.iload_n 3, 1) := by decide +kernel
theorem dX0_spread_19 : decode cX0_spread 19 = .ok (.aload_n 0, 1) := by decide +kernel
theorem dX0_spread_20 : decode cX0_spread 20 = .ok (.getfield 9, 3) := by decide +kernel
theorem dX0_spread_23 : decode cX0_spread 23 = .ok (.iload_n 1, 1) := by decide +kernel
theorem dX0_spread_24 : decode cX0_spread 24 = .ok (.iaload, 1) := by decide +kernel
theorem dX0_spread_25 : decode cX0_spread 25 = .ok (.if_icmp .ge 30, 3) := by decide +kernel
theorem dX0_spread_28 : decode cX0_spread 28 = .ok (.aload_n 0, 1) := by decide +kernel
theorem dX0_spread_29 : decode cX0_spread 29 = .ok (.aload_n 0, 1) := by decide +kernel
theorem dX0_spread_30 : decode cX0_spread 30 = .ok (.getfield 23, 3) := by decide +kernel
theorem dX0_spread_33 : decode cX0_spread 33 = .ok (.iload_n 1, 1) := by decide +kernel
theorem dX0_spread_34 : decode cX0_spread 34 = .ok (.aaload, 1) := by decide +kernel
theorem dX0_spread_35 : decode cX0_spread 35 = .ok (.iload_n 3, 1) := by decide +kernel
theorem dX0_spread_36 : decode cX0_spread 36 = .ok (.iaload, 1) := by decide +kernel
theorem dX0_spread_37 : decode cX0_spread 37 = .ok (.aload_n 0, 1) := by decide +kernel
theorem dX0_spread_38 : decode cX0_spread 38 = .ok (.getfield 26, 3) := by decide +kernel
theorem dX0_spread_41 : decode cX0_spread 41 = .ok (.iload_n 1, 1) := by decide +kernel
theorem dX0_spread_42 : decode cX0_spread 42 = .ok (.aaload, 1) := by decide +kernel
theorem dX0_spread_43 : decode cX0_spread 43 = .ok (.iload_n 3, 1) := by decide +kernel
theorem dX0_spread_44 : decode cX0_spread 44 = .ok (.iaload, 1) := by decide +kernel
theorem dX0_spread_45 : decode cX0_spread 45 = .ok (.aload_n 2, 1) := by decide +kernel
theorem dX0_spread_46 : decode cX0_spread 46 = .ok (.invokevirtual 106, 3) := by decide +kernel
theorem dX0_spread_49 : decode cX0_spread 49 = .ok (.iinc 3 1, 3) := by decide +kernel
theorem dX0_spread_52 : decode cX0_spread 52 = .ok (.goto (-34), 3) := by decide +kernel
theorem dX0_spread_55 : decode cX0_spread 55 = .ok (.return_, 1) := by decide +kernel
theorem cd_7 (G : ZG) (d : Nat) (K : ZKt) (F : ZFt) (hT : zt5 G.2.2.2) : CS G RX0 cX0_spread 4 d K (none) [] (fun _ => []) 0 (bd_7 G.2.2.2 K F) := by
  unfold bd_7
  exact (CS.seq 55 (CS.seq 8 (CS.callS (CA.ref (CE.getR (CE.aload_n rfl dX0_spread_0 zhd) fs_X0_29 dX0_spread_1 zhd) (CA.long (CE.lconst kJ_0 dX0_spread_4 zhd) CA.nil)) zi_218 cs_X0_100 (fun _ => rfl) dX0_spread_5 zhd)
  (CS.seq 16 (CS.stL (CE.getR (CE.aload_n rfl dX0_spread_8 zhd) fs_X0_29 dX0_spread_9 zhd) (CE.bipush kB_24 dX0_spread_12 zhd) (CE.lconst kJ_1 dX0_spread_14 zhd) dX0_spread_15 zhd)
  (CS.scope (CS.seq 18 (CS.decI_n (CX.pure (CE.iconst kI_0 dX0_spread_16 zhd)) rfl (by decide) dX0_spread_17 zhd)
  (CS.whl (T := 28) (F := 55) (p1 := 52) (CD.pure (CC.icmp_lt_F (T := 28) (F := 55) (CE.iload_n rfl dX0_spread_18 zhd) (CE.aldI (CE.getR (CE.aload_n rfl dX0_spread_19 zhd) fs_X0_9 dX0_spread_20 zhd) (CE.iload_n rfl dX0_spread_23 zhd) (Or.inl ⟨rfl, dX0_spread_24⟩) zhd) dX0_spread_25 rfl rfl))
  (CS.seq 49 (CS.callV (CA.ref (CE.aload_n rfl dX0_spread_28 zhd) (CA.int (CE.aldI (CE.aldR (CE.getR (CE.aload_n rfl dX0_spread_29 zhd) fs_X0_23 dX0_spread_30 zhd) (CE.iload_n rfl dX0_spread_33 zhd) dX0_spread_34 zhd) (CE.iload_n rfl dX0_spread_35 zhd) (Or.inl ⟨rfl, dX0_spread_36⟩) zhd) (CA.int (CE.aldI (CE.aldR (CE.getR (CE.aload_n rfl dX0_spread_37 zhd) fs_X0_26 dX0_spread_38 zhd) (CE.iload_n rfl dX0_spread_41 zhd) dX0_spread_42 zhd) (CE.iload_n rfl dX0_spread_43 zhd) (Or.inl ⟨rfl, dX0_spread_44⟩) zhd) (CA.ref (CE.aload_n rfl dX0_spread_45 zhd) CA.nil)))) zi_8 cv_X0_106 (fun _ => rfl) dX0_spread_46 zhd)
  (CS.inc kI_1 (by decide) dX0_spread_49 zhd)) dX0_spread_52 rfl zhd)))))
  (CS.retV dX0_spread_55))
theorem dX0_spreadTerm_0 : decode cX0_spreadTerm 0 = .ok (.aload_n 0, 1) := by decide +kernel
theorem dX0_spreadTerm_1 : decode cX0_spreadTerm 1 = .ok (.getfield 33, 3) := by decide +kernel
theorem dX0_spreadTerm_4 : decode cX0_spreadTerm 4 = .ok (.lconst 0, 1) := by decide +kernel
theorem dX0_spreadTerm_5 : decode cX0_spreadTerm 5 = .ok (.invokestatic 100, 3) := by decide +kernel
theorem dX0_spreadTerm_8 : decode cX0_spreadTerm 8 = .ok (.bipush (-4), 2) := by decide +kernel
theorem dX0_spreadTerm_10 : decode cX0_spreadTerm 10 = .ok (.istore 4, 2) := by decide +kernel
theorem dX0_spreadTerm_12 : decode cX0_spreadTerm 12 = .ok (.iload 4, 2) := by decide +kernel
theorem dX0_spreadTerm_14 : decode cX0_spreadTerm 14 = .ok (.iconst 4, 1) := by decide +kernel
theorem dX0_spreadTerm_15 : decode cX0_spreadTerm 15 = .ok (.if_icmp .gt 102, 3) := by decide +kernel
theorem dX0_spreadTerm_18 : decode cX0_spreadTerm 18 = .ok (.aload_n 3, 1) := by decide +kernel
theorem dX0_spreadTerm_19 : decode cX0_spreadTerm 19 = .ok (.iload_n 2, 1) := by decide +kernel
theorem dX0_spreadTerm_20 : decode cX0_spreadTerm 20 = .ok (.iload 4, 2) := by decide +kernel
theorem dX0_spreadTerm_22 : decode cX0_spreadTerm 22 = .ok (.invokevirtual 110, 3) := by decide +kernel
theorem dX0_spreadTerm_25 : decode cX0_spreadTerm 25 = .ok (.i2l, 1) := by decide +kernel
theorem dX0_spreadTerm_26 : decode cX0_spreadTerm 26 = .ok (.lstore 5, 2) := by decide +kernel
theorem dX0_spreadTerm_28 : decode cX0_spreadTerm 28 = .ok (.lload 5, 2) := by decide +kernel
theorem dX0_spreadTerm_30 : decode cX0_spreadTerm 30 = .ok (.lconst 0, 1) := by decide +kernel
theorem dX0_spreadTerm_31 : decode cX0_spreadTerm 31 = .ok (.lcmp, 1) := by decide +kernel
theorem dX0_spreadTerm_32 : decode cX0_spreadTerm 32 = .ok (.ifCond .ne 6, 3) := by decide +kernel
theorem dX0_spreadTerm_35 : decode cX0_spreadTerm 35 = .ok (.goto 76, 3) := by decide +kernel
theorem dX0_spreadTerm_38 : decode cX0_spreadTerm 38 = .ok (.iload_n 1, 1) := by decide +kernel
theorem dX0_spreadTerm_39 : decode cX0_spreadTerm 39 = .ok (.iload 4, 2) := by decide +kernel
theorem dX0_spreadTerm_41 : decode cX0_spreadTerm 41 = .ok (.imul, 1) := by decide +kernel
theorem dX0_spreadTerm_42 : decode cX0_spreadTerm 42 = .ok (.istore 7, 2) := by decide +kernel
theorem dX0_spreadTerm_44 : decode cX0_spreadTerm 44 = .ok (.iconst 0, 1) := by decide +kernel
theorem dX0_spreadTerm_45 : decode cX0_spreadTerm 45 = .ok (.iload 7, 2) := by decide +kernel
theorem dX0_spreadTerm_47 : decode cX0_spreadTerm 47 = .ok (.ineg, 1) := by decide +kernel
theorem dX0_spreadTerm_48 : decode cX0_spreadTerm 48 = .ok (.invokestatic 113, 3) := by decide +kernel
theorem dX0_spreadTerm_51 : decode cX0_spreadTerm 51 = .ok (.istore 8, 2) := by decide +kernel
theorem dX0_spreadTerm_53 : decode cX0_spreadTerm 53 = .ok (.aload_n 0, 1) := by decide +kernel
theorem dX0_spreadTerm_54 : decode cX0_spreadTerm 54 = .ok (.getfield 29, 3) := by decide +kernel
theorem dX0_spreadTerm_57 : decode cX0_spreadTerm 57 = .ok (.arraylength, 1) := by decide +kernel
theorem dX0_spreadTerm_58 : decode cX0_spreadTerm 58 = .ok (.aload_n 0, 1) := by decide +kernel
theorem dX0_spreadTerm_59 : decode cX0_spreadTerm 59 = .ok (.getfield 29, 3) := by decide +kernel
theorem dX0_spreadTerm_62 : decode cX0_spreadTerm 62 = .ok (.arraylength, 1) := by decide +kernel
theorem dX0_spreadTerm_63 : decode cX0_spreadTerm 63 = .ok (.iload 7, 2) := by decide +kernel
theorem dX0_spreadTerm_65 : decode cX0_spreadTerm 65 = .ok (.isub, 1) := by decide +kernel
theorem dX0_spreadTerm_66 : decode cX0_spreadTerm 66 = .ok (.invokestatic 80, 3) := by decide +kernel
theorem dX0_spreadTerm_69 : decode cX0_spreadTerm 69 = .ok (.istore 9, 2) := by decide +kernel
theorem dX0_spreadTerm_71 : decode cX0_spreadTerm 71 = .ok (.iload 8, 2) := by decide +kernel
theorem dX0_spreadTerm_73 : decode cX0_spreadTerm 73 = .ok (.istore 10, 2) := by decide +kernel
theorem dX0_spreadTerm_75 : decode cX0_spreadTerm 75 = .ok (.iload 10, 2) := by decide +kernel
theorem dX0_spreadTerm_77 : decode cX0_spreadTerm 77 = .ok (.iload 9, 2) := by decide +kernel
theorem dX0_spreadTerm_79 : decode cX0_spreadTerm 79 = .ok (.if_icmp .ge 32, 3) := by decide +kernel
theorem dX0_spreadTerm_82 : decode cX0_spreadTerm 82 = .ok (.aload_n 0, 1) := by decide +kernel
theorem dX0_spreadTerm_83 : decode cX0_spreadTerm 83 = .ok (.getfield 33, 3) := by decide +kernel
theorem dX0_spreadTerm_86 : decode cX0_spreadTerm 86 = .ok (.iload 10, 2) := by decide +kernel
theorem dX0_spreadTerm_88 : decode cX0_spreadTerm 88 = .ok (.iload 7, 2) := by decide +kernel
theorem dX0_spreadTerm_90 : decode cX0_spreadTerm 90 = .ok (.iadd, 1) := by decide +kernel
theorem dX0_spreadTerm_91 : decode cX0_spreadTerm 91 = .ok (.dup2, 1) := by decide +kernel
theorem dX0_spreadTerm_92 : decode cX0_spreadTerm 92 = .ok (.laload, 1) := by decide +kernel
theorem dX0_spreadTerm_93 : decode cX0_spreadTerm 93 = .ok (.lload 5, 2) := by decide +kernel
theorem dX0_spreadTerm_95 : decode cX0_spreadTerm 95 = .ok (.aload_n 0, 1) := by decide +kernel
theorem dX0_spreadTerm_96 : decode cX0_spreadTerm 96 = .ok (.getfield 29, 3) := by decide +kernel
theorem dX0_spreadTerm_99 : decode cX0_spreadTerm 99 = .ok (.iload 10, 2) := by decide +kernel
theorem dX0_spreadTerm_101 : decode cX0_spreadTerm 101 = .ok (.laload, 1) := by decide +kernel
theorem dX0_spreadTerm_102 : decode cX0_spreadTerm 102 = .ok (.lmul, 1) := by decide +kernel
theorem dX0_spreadTerm_103 : decode cX0_spreadTerm 103 = .ok (.ladd, 1) := by decide +kernel
theorem dX0_spreadTerm_104 : decode cX0_spreadTerm 104 = .ok (.lastore, 1) := by decide +kernel
theorem dX0_spreadTerm_105 : decode cX0_spreadTerm 105 = .ok (.iinc 10 1, 3) := by decide +kernel
theorem dX0_spreadTerm_108 : decode cX0_spreadTerm 108 = .ok (.goto (-33), 3) := by decide +kernel
theorem dX0_spreadTerm_111 : decode cX0_spreadTerm 111 = .ok (.iinc 4 1, 3) := by decide +kernel
theorem dX0_spreadTerm_114 : decode cX0_spreadTerm 114 = .ok (.goto (-102), 3) := by decide +kernel
theorem dX0_spreadTerm_117 : decode cX0_spreadTerm 117 = .ok (.aload_n 0, 1) := by decide +kernel
theorem dX0_spreadTerm_118 : decode cX0_spreadTerm 118 = .ok (.getfield 33, 3) := by decide +kernel
theorem dX0_spreadTerm_121 : decode cX0_spreadTerm 121 = .ok (.iconst 0, 1) := by decide +kernel
theorem dX0_spreadTerm_122 : decode cX0_spreadTerm 122 = .ok (.aload_n 0, 1) := by decide +kernel
theorem dX0_spreadTerm_123 : decode cX0_spreadTerm 123 = .ok (.getfield 29, 3) := by decide +kernel
theorem dX0_spreadTerm_126 : decode cX0_spreadTerm 126 = .ok (.iconst 0, 1) := by decide +kernel
theorem dX0_spreadTerm_127 : decode cX0_spreadTerm 127 = .ok (.aload_n 0, 1) := by decide +kernel
theorem dX0_spreadTerm_128 : decode cX0_spreadTerm 128 = .ok (.getfield 29, 3) := by decide +kernel
theorem dX0_spreadTerm_131 : decode cX0_spreadTerm 131 = .ok (.arraylength, 1) := by decide +kernel
theorem dX0_spreadTerm_132 : decode cX0_spreadTerm 132 = .ok (.invokestatic 50, 3) := by decide +kernel
theorem dX0_spreadTerm_135 : decode cX0_spreadTerm 135 = .ok (.return_, 1) := by decide +kernel
theorem cd_8 (G : ZG) (d : Nat) (K : ZKt) (F : ZFt) (hT : zt5 G.2.2.2) : CS G RX0 cX0_spreadTerm 11 d K (none) [] (fun _ => []) 0 (bd_8 G.2.2.2 K F) := by
  unfold bd_8
  exact (CS.seq 135 (CS.seq 8 (CS.callS (CA.ref (CE.getR (CE.aload_n rfl dX0_spreadTerm_0 zhd) fs_X0_33 dX0_spreadTerm_1 zhd) (CA.long (CE.lconst kJ_0 dX0_spreadTerm_4 zhd) CA.nil)) zi_218 cs_X0_100 (fun _ => rfl) dX0_spreadTerm_5 zhd)
  (CS.seq 117 (CS.scope (CS.seq 12 (CS.decI (CX.pure (CE.bipush kB_m4 dX0_spreadTerm_8 zhd)) (by decide) dX0_spreadTerm_10 zhd)
  (CS.for (T := 18) (F := 117) (pu := 111) (p1 := 114) (kb := 1) (kc := 2) (CD.pure (CC.icmp_le_F (T := 18) (F := 117) (CE.iload dX0_spreadTerm_12 zhd) (CE.iconst kI_4 dX0_spreadTerm_14 zhd) dX0_spreadTerm_15 rfl rfl))
  (CS.scope (CS.seq 28 (CS.decL (CX.pure (CE.i2l (CE.callV (by decide) (CA.ref (CE.aload_n rfl dX0_spreadTerm_18 zhd) (CA.int (CE.iload_n rfl dX0_spreadTerm_19 zhd) (CA.int (CE.iload dX0_spreadTerm_20 zhd) CA.nil))) zi_18 cv_X0_110 (fun _ => rfl) dX0_spreadTerm_22 zhd) dX0_spreadTerm_25 zhd)) (by decide) dX0_spreadTerm_26 zhd)
  (CS.seq 38 (CS.ifT (F := 38) (CDT.of (CD.pure (CC.lcmp_eq_F (T := 35) (F := 38) (CE.lload dX0_spreadTerm_28 zhd) (CE.lconst kJ_0 dX0_spreadTerm_30 zhd) dX0_spreadTerm_31 dX0_spreadTerm_32 rfl rfl)) zhd) (CS.brk (q := 111) dX0_spreadTerm_35 rfl zhd) (CS.brk0 zhd) zhd)
  (CS.seq 44 (CS.decI (CX.pure (CE.imul (CE.iload_n rfl dX0_spreadTerm_38 zhd) (CE.iload dX0_spreadTerm_39 zhd) dX0_spreadTerm_41 zhd)) (by decide) dX0_spreadTerm_42 zhd)
  (CS.seq 53 (CS.decI (CX.pure (CE.mmax (by decide) (CE.iconst kI_0 dX0_spreadTerm_44 zhd) (CE.ineg (CE.iload dX0_spreadTerm_45 zhd) dX0_spreadTerm_47 zhd) mm_X0_113 dX0_spreadTerm_48 zhd)) (by decide) dX0_spreadTerm_51 zhd)
  (CS.seq 71 (CS.decI (CX.pure (CE.mmin (by decide) (CE.alen (CE.getR (CE.aload_n rfl dX0_spreadTerm_53 zhd) fs_X0_29 dX0_spreadTerm_54 zhd) dX0_spreadTerm_57 zhd hT) (CE.isub (CE.alen (CE.getR (CE.aload_n rfl dX0_spreadTerm_58 zhd) fs_X0_29 dX0_spreadTerm_59 zhd) dX0_spreadTerm_62 zhd hT) (CE.iload dX0_spreadTerm_63 zhd) dX0_spreadTerm_65 zhd) mm_X0_80 dX0_spreadTerm_66 zhd)) (by decide) dX0_spreadTerm_69 zhd)
  (CS.scope (CS.seq 75 (CS.decI (CX.pure (CE.iload dX0_spreadTerm_71 zhd)) (by decide) dX0_spreadTerm_73 zhd)
  (CS.whl (T := 82) (F := 111) (p1 := 108) (CD.pure (CC.icmp_lt_F (T := 82) (F := 111) (CE.iload dX0_spreadTerm_75 zhd) (CE.iload dX0_spreadTerm_77 zhd) dX0_spreadTerm_79 rfl rfl))
  (CS.seq 105 (CS.stUL (CE.getR (CE.aload_n rfl dX0_spreadTerm_82 zhd) fs_X0_33 dX0_spreadTerm_83 zhd) (CE.iadd (CE.iload dX0_spreadTerm_86 zhd) (CE.iload dX0_spreadTerm_88 zhd) dX0_spreadTerm_90 zhd) dX0_spreadTerm_91 dX0_spreadTerm_92 (CE.lmul (CE.lload dX0_spreadTerm_93 zhd) (CE.aldL (CE.getR (CE.aload_n rfl dX0_spreadTerm_95 zhd) fs_X0_29 dX0_spreadTerm_96 zhd) (CE.iload dX0_spreadTerm_99 zhd) dX0_spreadTerm_101 zhd) dX0_spreadTerm_102 zhd) rfl dX0_spreadTerm_103 dX0_spreadTerm_104 zhd)
  (CS.inc kI_1 (by decide) dX0_spreadTerm_105 zhd)) dX0_spreadTerm_108 rfl zhd))))))))) (CS.inc kI_1 (by decide) dX0_spreadTerm_111 zhd) dX0_spreadTerm_114 rfl zhd)))
  (CS.cpyL (CE.getR (CE.aload_n rfl dX0_spreadTerm_117 zhd) fs_X0_33 dX0_spreadTerm_118 zhd) dX0_spreadTerm_121 (CE.getR (CE.aload_n rfl dX0_spreadTerm_122 zhd) fs_X0_29 dX0_spreadTerm_123 zhd) dX0_spreadTerm_126 (CE.alen (CE.getR (CE.aload_n rfl dX0_spreadTerm_127 zhd) fs_X0_29 dX0_spreadTerm_128 zhd) dX0_spreadTerm_131 zhd hT) sy_X0_50 dX0_spreadTerm_132 zhd)))
  (CS.retV dX0_spreadTerm_135))
theorem dX0_commonDivisor_0 : decode cX0_commonDivisor 0 = .ok (.lload_n 0, 1) := by decide +kernel
theorem dX0_commonDivisor_1 : decode cX0_commonDivisor 1 = .ok (.lstore 4, 2) := by decide +kernel
theorem dX0_commonDivisor_3 : decode cX0_commonDivisor 3 = .ok (.lload_n 2, 1) := by decide +kernel
theorem dX0_commonDivisor_4 : decode cX0_commonDivisor 4 = .ok (.lstore 6, 2) := by decide +kernel
theorem dX0_commonDivisor_6 : decode cX0_commonDivisor 6 = .ok (.iconst 0, 1) := by decide +kernel
theorem dX0_commonDivisor_7 : decode cX0_commonDivisor 7 = .ok (.istore 8, 2) := by decide +kernel
theorem dX0_commonDivisor_9 : decode cX0_commonDivisor 9 = .ok (.iload 8, 2) := by decide +kernel
theorem dX0_commonDivisor_11 : decode cX0_commonDivisor 11 = .ok (.bipush 100, 2) := by decide +kernel
theorem dX0_commonDivisor_13 : decode cX0_commonDivisor 13 = .ok (.if_icmp .ge 31, 3) := by decide +kernel
theorem dX0_commonDivisor_16 : decode cX0_commonDivisor 16 = .ok (.lload 6, 2) := by decide +kernel
theorem dX0_commonDivisor_18 : decode cX0_commonDivisor 18 = .ok (.lconst 0, 1) := by decide +kernel
theorem dX0_commonDivisor_19 : decode cX0_commonDivisor 19 = .ok (.lcmp, 1) := by decide +kernel
theorem dX0_commonDivisor_20 : decode cX0_commonDivisor 20 = .ok (.ifCond .eq 24, 3) := by decide +kernel
theorem dX0_commonDivisor_23 : decode cX0_commonDivisor 23 = .ok (.lload 4, 2) := by decide +kernel
theorem dX0_commonDivisor_25 : decode cX0_commonDivisor 25 = .ok (.lload 6, 2) := by decide +kernel
theorem dX0_commonDivisor_27 : decode cX0_commonDivisor 27 = .ok (.lrem, 1) := by decide +kernel
theorem dX0_commonDivisor_28 : decode cX0_commonDivisor 28 = .ok (.lstore 9, 2) := by decide +kernel
theorem dX0_commonDivisor_30 : decode cX0_commonDivisor 30 = .ok (.lload 6, 2) := by decide +kernel
theorem dX0_commonDivisor_32 : decode cX0_commonDivisor 32 = .ok (.lstore 4, 2) := by decide +kernel
theorem dX0_commonDivisor_34 : decode cX0_commonDivisor 34 = .ok (.lload 9, 2) := by decide +kernel
theorem dX0_commonDivisor_36 : decode cX0_commonDivisor 36 = .ok (.lstore 6, 2) := by decide +kernel
theorem dX0_commonDivisor_38 : decode cX0_commonDivisor 38 = .ok (.iinc 8 1, 3) := by decide +kernel
theorem dX0_commonDivisor_41 : decode cX0_commonDivisor 41 = .ok (.goto (-32), 3) := by decide +kernel
theorem dX0_commonDivisor_44 : decode cX0_commonDivisor 44 = .ok (.lload 4, 2) := by decide +kernel
theorem dX0_commonDivisor_46 : decode cX0_commonDivisor 46 = .ok (.lreturn, 1) := by decide +kernel
theorem cd_9 (G : ZG) (d : Nat) (K : ZKt) (F : ZFt) (hT : zt5 G.2.2.2) : CS G RX0 cX0_commonDivisor 11 d K (some .long) [] (fun _ => []) 0 (bd_9 G.2.2.2 K F) := by
  unfold bd_9
  exact (CS.seq 3 (CS.decL (CX.pure (CE.lload_n rfl dX0_commonDivisor_0 zhd)) (by decide) dX0_commonDivisor_1 zhd)
  (CS.seq 6 (CS.decL (CX.pure (CE.lload_n rfl dX0_commonDivisor_3 zhd)) (by decide) dX0_commonDivisor_4 zhd)
  (CS.seq 44 (CS.scope (CS.seq 9 (CS.decI (CX.pure (CE.iconst kI_0 dX0_commonDivisor_6 zhd)) (by decide) dX0_commonDivisor_7 zhd)
  (CS.whl (T := 23) (F := 44) (p1 := 41) (CD.pure (CC.and (CC.icmp_lt_F (T := 16) (F := 44) (CE.iload dX0_commonDivisor_9 zhd) (CE.bipush kB_100 dX0_commonDivisor_11 zhd) dX0_commonDivisor_13 rfl rfl) (CC.lcmp_ne_F (T := 23) (F := 44) (CE.lload dX0_commonDivisor_16 zhd) (CE.lconst kJ_0 dX0_commonDivisor_18 zhd) dX0_commonDivisor_19 dX0_commonDivisor_20 rfl rfl)))
  (CS.seq 38 (CS.scope (CS.seq 30 (CS.decL (CX.pure (CE.lrem (CE.lload dX0_commonDivisor_23 zhd) (CE.lload dX0_commonDivisor_25 zhd) dX0_commonDivisor_27 zhd)) (by decide) dX0_commonDivisor_28 zhd)
  (CS.seq 34 (CS.setL (CX.pure (CE.lload dX0_commonDivisor_30 zhd)) (by decide) dX0_commonDivisor_32 zhd)
  (CS.setL (CX.pure (CE.lload dX0_commonDivisor_34 zhd)) (by decide) dX0_commonDivisor_36 zhd))))
  (CS.inc kI_1 (by decide) dX0_commonDivisor_38 zhd)) dX0_commonDivisor_41 rfl zhd)))
  (CS.retL (CX.pure (CE.lload dX0_commonDivisor_44 zhd)) dX0_commonDivisor_46))))
theorem dX0_fold_0 : decode cX0_fold 0 = .ok (.lload_n 1, 1) := by decide +kernel
theorem dX0_fold_1 : decode cX0_fold 1 = .ok (.lstore 4, 2) := by decide +kernel
theorem dX0_fold_3 : decode cX0_fold 3 = .ok (.iconst 0, 1) := by decide +kernel
theorem dX0_fold_4 : decode cX0_fold 4 = .ok (.istore 6, 2) := by decide +kernel
theorem dX0_fold_6 : decode cX0_fold 6 = .ok (.iload 6, 2) := by decide +kernel
theorem dX0_fold_8 : decode cX0_fold 8 = .ok (.aload_n 0, 1) := by decide +kernel
theorem dX0_fold_9 : decode cX0_fold 9 = .ok (.getfield 36, 3) := by decide +kernel
theorem dX0_fold_12 : decode cX0_fold 12 = .ok (.if_icmp .ge 42, 3) := by decide +kernel
theorem dX0_fold_15 : decode cX0_fold 15 = .ok (.iconst 0, 1) := by decide +kernel
theorem dX0_fold_16 : decode cX0_fold 16 = .ok (.istore 7, 2) := by decide +kernel
theorem dX0_fold_18 : decode cX0_fold 18 = .ok (.iload 7, 2) := by decide +kernel
theorem dX0_fold_20 : decode cX0_fold 20 = .ok (.bipush 6, 2) := by decide +kernel
theorem dX0_fold_22 : decode cX0_fold 22 = .ok (.if_icmp .gt 26, 3) := by decide +kernel
theorem dX0_fold_25 : decode cX0_fold 25 = .ok (.lload 4, 2) := by decide +kernel
theorem dX0_fold_27 : decode cX0_fold 27 = .ok (.aload_n 0, 1) := by decide +kernel
theorem dX0_fold_28 : decode cX0_fold 28 = .ok (.iload 6, 2) := by decide +kernel
theorem dX0_fold_30 : decode cX0_fold 30 = .ok (.iload 7, 2) := by decide +kernel
theorem dX0_fold_32 : decode cX0_fold 32 = .ok (.aload_n 3, 1) := by decide +kernel
theorem dX0_fold_33 : decode cX0_fold 33 = .ok (.invokevirtual 116, 3) := by decide +kernel
theorem dX0_fold_36 : decode cX0_fold 36 = .ok (.i2l, 1) := by decide +kernel
theorem dX0_fold_37 : decode cX0_fold 37 = .ok (.invokestatic 120, 3) := by decide +kernel
theorem dX0_fold_40 : decode cX0_fold 40 = .ok (.lstore 4, 2) := by decide +kernel
theorem dX0_fold_42 : decode cX0_fold 42 = .ok (.iinc 7 1, 3) := by decide +kernel
theorem dX0_fold_45 : decode cX0_fold 45 = .ok (.goto (-27), 3) := by decide +kernel
theorem dX0_fold_48 : decode cX0_fold 48 = .ok (.iinc 6 1, 3) := by decide +kernel
theorem dX0_fold_51 : decode cX0_fold 51 = .ok (.goto (-45), 3) := by decide +kernel
theorem dX0_fold_54 : decode cX0_fold 54 = .ok (.lload 4, 2) := by decide +kernel
theorem dX0_fold_56 : decode cX0_fold 56 = .ok (.lreturn, 1) := by decide +kernel
theorem cd_10 (G : ZG) (d : Nat) (K : ZKt) (F : ZFt) (hT : zt5 G.2.2.2) : CS G RX0 cX0_fold 8 d K (some .long) [] (fun _ => []) 0 (bd_10 G.2.2.2 K F) := by
  unfold bd_10
  exact (CS.seq 3 (CS.decL (CX.pure (CE.lload_n rfl dX0_fold_0 zhd)) (by decide) dX0_fold_1 zhd)
  (CS.seq 54 (CS.scope (CS.seq 6 (CS.decI (CX.pure (CE.iconst kI_0 dX0_fold_3 zhd)) (by decide) dX0_fold_4 zhd)
  (CS.whl (T := 15) (F := 54) (p1 := 51) (CD.pure (CC.icmp_lt_F (T := 15) (F := 54) (CE.iload dX0_fold_6 zhd) (CE.getI (CE.aload_n rfl dX0_fold_8 zhd) fs_X0_36 dX0_fold_9 zhd) dX0_fold_12 rfl rfl))
  (CS.seq 48 (CS.scope (CS.seq 18 (CS.decI (CX.pure (CE.iconst kI_0 dX0_fold_15 zhd)) (by decide) dX0_fold_16 zhd)
  (CS.whl (T := 25) (F := 48) (p1 := 45) (CD.pure (CC.icmp_le_F (T := 25) (F := 48) (CE.iload dX0_fold_18 zhd) (CE.bipush kB_6 dX0_fold_20 zhd) dX0_fold_22 rfl rfl))
  (CS.seq 42 (CS.setL (CX.pure (CE.callS (by decide) (CA.long (CE.lload dX0_fold_25 zhd) (CA.long (CE.i2l (CE.callV (by decide) (CA.ref (CE.aload_n rfl dX0_fold_27 zhd) (CA.int (CE.iload dX0_fold_28 zhd) (CA.int (CE.iload dX0_fold_30 zhd) (CA.ref (CE.aload_n rfl dX0_fold_32 zhd) CA.nil)))) zi_1 cv_X0_116 (fun _ => rfl) dX0_fold_33 zhd) dX0_fold_36 zhd) CA.nil)) zi_132 cs_X0_120 (fun _ => rfl) dX0_fold_37 zhd)) (by decide) dX0_fold_40 zhd)
  (CS.inc kI_1 (by decide) dX0_fold_42 zhd)) dX0_fold_45 rfl zhd)))
  (CS.inc kI_1 (by decide) dX0_fold_48 zhd)) dX0_fold_51 rfl zhd)))
  (CS.retL (CX.pure (CE.lload dX0_fold_54 zhd)) dX0_fold_56)))
theorem dX1_rowOf_0 : decode cX1_rowOf 0 = .ok (.iload_n 1, 1) := by decide +kernel
theorem dX1_rowOf_1 : decode cX1_rowOf 1 = .ok (.ifCond .ne 8, 3) := by decide +kernel
theorem dX1_rowOf_4 : decode cX1_rowOf 4 = .ok (.aload_n 0, 1) := by decide +kernel
theorem dX1_rowOf_5 : decode cX1_rowOf 5 = .ok (.getfield 9, 3) := by decide +kernel
theorem dX1_rowOf_8 : decode cX1_rowOf 8 = .ok (.areturn, 1) := by decide +kernel
theorem dX1_rowOf_9 : decode cX1_rowOf 9 = .ok (.iload_n 1, 1) := by decide +kernel
theorem dX1_rowOf_10 : decode cX1_rowOf 10 = .ok (.iconst 1, 1) := by decide +kernel
theorem dX1_rowOf_11 : decode cX1_rowOf 11 = .ok (.if_icmp .ne 10, 3) := by decide +kernel
theorem dX1_rowOf_14 : decode cX1_rowOf 14 = .ok (.aload_n 0, 1) := by decide +kernel
theorem dX1_rowOf_15 : decode cX1_rowOf 15 = .ok (.getfield 15, 3) := by decide +kernel
theorem dX1_rowOf_18 : decode cX1_rowOf 18 = .ok (.goto 7, 3) := by decide +kernel
theorem dX1_rowOf_21 : decode cX1_rowOf 21 = .ok (.aload_n 0, 1) := by decide +kernel
theorem dX1_rowOf_22 : decode cX1_rowOf 22 = .ok (.getfield 18, 3) := by decide +kernel
theorem dX1_rowOf_25 : decode cX1_rowOf 25 = .ok (.areturn, 1) := by decide +kernel
theorem cd_11 (G : ZG) (d : Nat) (K : ZKt) (F : ZFt) (hT : zt5 G.2.2.2) : CS G RX1 cX1_rowOf 2 d K (some (.array .int)) [] (fun _ => []) 0 (bd_11 G.2.2.2 K F) := by
  unfold bd_11
  exact (CS.seq 9 (CS.if1 (T := 4) (F := 9) (CD.pure (CC.if_eq_F (T := 4) (F := 9) (CE.iload_n rfl dX1_rowOf_0 zhd) dX1_rowOf_1 rfl rfl)) (CS.retR (CX.pure (CE.getR (CE.aload_n rfl dX1_rowOf_4 zhd) fs_X1_9 dX1_rowOf_5 zhd)) dX1_rowOf_8) zhd)
  (CS.retR (CX.pure (CE.tern (T := 14) (F := 21) (p1 := 18) (q := 25) (CC.icmp_eq_F (T := 14) (F := 21) (CE.iload_n rfl dX1_rowOf_9 zhd) (CE.iconst kI_1 dX1_rowOf_10 zhd) dX1_rowOf_11 rfl rfl) (CE.getR (CE.aload_n rfl dX1_rowOf_14 zhd) fs_X1_15 dX1_rowOf_15 zhd) zex2 dX1_rowOf_18 rfl zhd (CE.getR (CE.aload_n rfl dX1_rowOf_21 zhd) fs_X1_18 dX1_rowOf_22 zhd))) dX1_rowOf_25))
theorem dX1_greatestOf_0 : decode cX1_greatestOf 0 = .ok (.iload_n 1, 1) := by decide +kernel
theorem dX1_greatestOf_1 : decode cX1_greatestOf 1 = .ok (.ifCond .ne 6, 3) := by decide +kernel
theorem dX1_greatestOf_4 : decode cX1_greatestOf 4 = .ok (.bipush 6, 2) := by decide +kernel
theorem dX1_greatestOf_6 : decode cX1_greatestOf 6 = .ok (.ireturn, 1) := by decide +kernel
theorem dX1_greatestOf_7 : decode cX1_greatestOf 7 = .ok (.iload_n 1, 1) := by decide +kernel
theorem dX1_greatestOf_8 : decode cX1_greatestOf 8 = .ok (.iconst 1, 1) := by decide +kernel
theorem dX1_greatestOf_9 : decode cX1_greatestOf 9 = .ok (.if_icmp .ne 9, 3) := by decide +kernel
theorem dX1_greatestOf_12 : decode cX1_greatestOf 12 = .ok (.sipush 999, 3) := by decide +kernel
theorem dX1_greatestOf_15 : decode cX1_greatestOf 15 = .ok (.goto 4, 3) := by decide +kernel
theorem dX1_greatestOf_18 : decode cX1_greatestOf 18 = .ok (.iconst 3, 1) := by decide +kernel
theorem dX1_greatestOf_19 : decode cX1_greatestOf 19 = .ok (.ireturn, 1) := by decide +kernel
theorem cd_12 (G : ZG) (d : Nat) (K : ZKt) (F : ZFt) (hT : zt5 G.2.2.2) : CS G RX1 cX1_greatestOf 2 d K (some .int) [] (fun _ => []) 0 (bd_12 G.2.2.2 K F) := by
  unfold bd_12
  exact (CS.seq 7 (CS.if1 (T := 4) (F := 7) (CD.pure (CC.if_eq_F (T := 4) (F := 7) (CE.iload_n rfl dX1_greatestOf_0 zhd) dX1_greatestOf_1 rfl rfl)) (CS.retI (CX.pure (CE.bipush kB_6 dX1_greatestOf_4 zhd)) dX1_greatestOf_6) zhd)
  (CS.retI (CX.pure (CE.tern (T := 12) (F := 18) (p1 := 15) (q := 19) (CC.icmp_eq_F (T := 12) (F := 18) (CE.iload_n rfl dX1_greatestOf_7 zhd) (CE.iconst kI_1 dX1_greatestOf_8 zhd) dX1_greatestOf_9 rfl rfl) (CE.sipush kS_999 dX1_greatestOf_12 zhd) zex2 dX1_greatestOf_15 rfl zhd (CE.iconst kI_3 dX1_greatestOf_18 zhd))) dX1_greatestOf_19))
theorem dX1_isOfKind_0 : decode cX1_isOfKind 0 = .ok (.aload_n 0, 1) := by decide +kernel
theorem dX1_isOfKind_1 : decode cX1_isOfKind 1 = .ok (.getfield 9, 3) := by decide +kernel
theorem dX1_isOfKind_4 : decode cX1_isOfKind 4 = .ok (.iload_n 1, 1) := by decide +kernel
theorem dX1_isOfKind_5 : decode cX1_isOfKind 5 = .ok (.iaload, 1) := by decide +kernel
theorem dX1_isOfKind_6 : decode cX1_isOfKind 6 = .ok (.istore_n 3, 1) := by decide +kernel
theorem dX1_isOfKind_7 : decode cX1_isOfKind 7 = .ok (.iload_n 2, 1) := by decide +kernel
theorem dX1_isOfKind_8 : decode cX1_isOfKind 8 = .ok (.ifCond .eq 19, 3) := by decide +kernel
theorem dX1_isOfKind_11 : decode cX1_isOfKind 11 = .ok (.iload_n 2, 1) := by decide +kernel
theorem dX1_isOfKind_12 : decode cX1_isOfKind 12 = .ok (.iload_n 3, 1) := by decide +kernel
theorem dX1_isOfKind_13 : decode cX1_isOfKind 13 = .ok (.if_icmp .eq 14, 3) := by decide +kernel
theorem dX1_isOfKind_16 : decode cX1_isOfKind 16 = .ok (.iload_n 2, 1) := by decide +kernel
theorem dX1_isOfKind_17 : decode cX1_isOfKind 17 = .ok (.iconst 1, 1) := by decide +kernel
theorem dX1_isOfKind_18 : decode cX1_isOfKind 18 = .ok (.if_icmp .ne 13, 3) := by decide +kernel
theorem dX1_isOfKind_21 : decode cX1_isOfKind 21 = .ok (.iload_n 3, 1) := by decide +kernel
theorem dX1_isOfKind_22 : decode cX1_isOfKind 22 = .ok (.bipush 6, 2) := by decide +kernel
theorem dX1_isOfKind_24 : decode cX1_isOfKind 24 = .ok (.if_icmp .ne 7, 3) := by decide +kernel
theorem dX1_isOfKind_27 : decode cX1_isOfKind 27 = .ok (.iconst 1, 1) := by decide +kernel
theorem dX1_isOfKind_28 : decode cX1_isOfKind 28 = .ok (.goto 4, 3) := by decide +kernel
theorem dX1_isOfKind_31 : decode cX1_isOfKind 31 = .ok (.iconst 0, 1) := by decide +kernel
theorem dX1_isOfKind_32 : decode cX1_isOfKind 32 = .ok (.ireturn, 1) := by decide +kernel
theorem cd_13 (G : ZG) (d : Nat) (K : ZKt) (F : ZFt) (hT : zt5 G.2.2.2) : CS G RX1 cX1_isOfKind 4 d K (some .boolean) [] (fun _ => []) 0 (bd_13 G.2.2.2 K F) := by
  unfold bd_13
  exact (CS.seq 7 (CS.decI_n (CX.pure (CE.aldI (CE.getR (CE.aload_n rfl dX1_isOfKind_0 zhd) fs_X1_9 dX1_isOfKind_1 zhd) (CE.iload_n rfl dX1_isOfKind_4 zhd) (Or.inl ⟨rfl, dX1_isOfKind_5⟩) zhd)) rfl (by decide) dX1_isOfKind_6 zhd)
  (CS.retZ (CX.pure (CE.bool (T := 27) (F := 31) (q := 32) (CC.or (CC.or (CC.if_eq_T (T := 27) (F := 11) (CE.iload_n rfl dX1_isOfKind_7 zhd) dX1_isOfKind_8 rfl rfl) (CC.icmp_eq_T (T := 27) (F := 16) (CE.iload_n rfl dX1_isOfKind_11 zhd) (CE.iload_n rfl dX1_isOfKind_12 zhd) dX1_isOfKind_13 rfl rfl)) (CC.and (CC.icmp_eq_F (T := 21) (F := 31) (CE.iload_n rfl dX1_isOfKind_16 zhd) (CE.iconst kI_1 dX1_isOfKind_17 zhd) dX1_isOfKind_18 rfl rfl) (CC.icmp_eq_F (T := 27) (F := 31) (CE.iload_n rfl dX1_isOfKind_21 zhd) (CE.bipush kB_6 dX1_isOfKind_22 zhd) dX1_isOfKind_24 rfl rfl))) dX1_isOfKind_27 rfl dX1_isOfKind_28 rfl zhd dX1_isOfKind_31 zhd)) dX1_isOfKind_32))
theorem dX1_sizeOf_0 : decode cX1_sizeOf 0 = .ok (.aload_n 0, 1) := by decide +kernel
theorem dX1_sizeOf_1 : decode cX1_sizeOf 1 = .ok (.getfield 15, 3) := by decide +kernel
theorem dX1_sizeOf_4 : decode cX1_sizeOf 4 = .ok (.iload_n 1, 1) := by decide +kernel
theorem dX1_sizeOf_5 : decode cX1_sizeOf 5 = .ok (.iaload, 1) := by decide +kernel
theorem dX1_sizeOf_6 : decode cX1_sizeOf 6 = .ok (.istore_n 2, 1) := by decide +kernel
theorem dX1_sizeOf_7 : decode cX1_sizeOf 7 = .ok (.aload_n 0, 1) := by decide +kernel
theorem dX1_sizeOf_8 : decode cX1_sizeOf 8 = .ok (.getfield 9, 3) := by decide +kernel
theorem dX1_sizeOf_11 : decode cX1_sizeOf 11 = .ok (.iload_n 1, 1) := by decide +kernel
theorem dX1_sizeOf_12 : decode cX1_sizeOf 12 = .ok (.iaload, 1) := by decide +kernel
theorem dX1_sizeOf_13 : decode cX1_sizeOf 13 = .ok (.tableswitch 62 1 6 #[39, 62, 44, 62, 51, 55], 39) := by decide +kernel
theorem dX1_sizeOf_52 : decode cX1_sizeOf 52 = .ok (.iload_n 2, 1) := by decide +kernel
theorem dX1_sizeOf_53 : decode cX1_sizeOf 53 = .ok (.invokestatic 38, 3) := by decide +kernel
theorem dX1_sizeOf_56 : decode cX1_sizeOf 56 = .ok (.ireturn, 1) := by decide +kernel
theorem dX1_sizeOf_57 : decode cX1_sizeOf 57 = .ok (.iload_n 2, 1) := by decide +kernel
theorem dX1_sizeOf_58 : decode cX1_sizeOf 58 = .ok (.iload_n 2, 1) := by decide +kernel
theorem dX1_sizeOf_59 : decode cX1_sizeOf 59 = .ok (.bipush 50, 2) := by decide +kernel
theorem dX1_sizeOf_61 : decode cX1_sizeOf 61 = .ok (.idiv, 1) := by decide +kernel
theorem dX1_sizeOf_62 : decode cX1_sizeOf 62 = .ok (.isub, 1) := by decide +kernel
theorem dX1_sizeOf_63 : decode cX1_sizeOf 63 = .ok (.ireturn, 1) := by decide +kernel
theorem dX1_sizeOf_64 : decode cX1_sizeOf 64 = .ok (.iload_n 2, 1) := by decide +kernel
theorem dX1_sizeOf_65 : decode cX1_sizeOf 65 = .ok (.iconst 2, 1) := by decide +kernel
theorem dX1_sizeOf_66 : decode cX1_sizeOf 66 = .ok (.iadd, 1) := by decide +kernel
theorem dX1_sizeOf_67 : decode cX1_sizeOf 67 = .ok (.ireturn, 1) := by decide +kernel
theorem dX1_sizeOf_68 : decode cX1_sizeOf 68 = .ok (.iload_n 2, 1) := by decide +kernel
theorem dX1_sizeOf_69 : decode cX1_sizeOf 69 = .ok (.invokestatic 38, 3) := by decide +kernel
theorem dX1_sizeOf_72 : decode cX1_sizeOf 72 = .ok (.iconst 1, 1) := by decide +kernel
theorem dX1_sizeOf_73 : decode cX1_sizeOf 73 = .ok (.iadd, 1) := by decide +kernel
theorem dX1_sizeOf_74 : decode cX1_sizeOf 74 = .ok (.ireturn, 1) := by decide +kernel
theorem dX1_sizeOf_75 : decode cX1_sizeOf 75 = .ok (.iload_n 2, 1) := by decide +kernel
theorem dX1_sizeOf_76 : decode cX1_sizeOf 76 = .ok (.ireturn, 1) := by decide +kernel
theorem cd_14 (G : ZG) (d : Nat) (K : ZKt) (F : ZFt) (hT : zt5 G.2.2.2) : CS G RX1 cX1_sizeOf 3 d K (some .int) [] (fun _ => []) 0 (bd_14 G.2.2.2 K F) := by
  unfold bd_14
  exact (CS.seq 7 (CS.decI_n (CX.pure (CE.aldI (CE.getR (CE.aload_n rfl dX1_sizeOf_0 zhd) fs_X1_15 dX1_sizeOf_1 zhd) (CE.iload_n rfl dX1_sizeOf_4 zhd) (Or.inl ⟨rfl, dX1_sizeOf_5⟩) zhd)) rfl (by decide) dX1_sizeOf_6 zhd)
  (CS.sw (qd := 75) (CX.pure (CE.aldI (CE.getR (CE.aload_n rfl dX1_sizeOf_7 zhd) fs_X1_9 dX1_sizeOf_8 zhd) (CE.iload_n rfl dX1_sizeOf_11 zhd) (Or.inl ⟨rfl, dX1_sizeOf_12⟩) zhd)) dX1_sizeOf_13 rfl ⟨by decide, ⟨_, 52, rfl, rfl, (CS.retI (CX.pure (CE.callS (by decide) (CA.int (CE.iload_n rfl dX1_sizeOf_52 zhd) CA.nil) zi_16 cs_X1_38 (fun _ => rfl) dX1_sizeOf_53 zhd)) dX1_sizeOf_56)⟩, ⟨by decide, ⟨_, 75, rfl, rfl, (CS.retI (CX.pure (CE.iload_n rfl dX1_sizeOf_75 zhd)) dX1_sizeOf_76)⟩, ⟨by decide, ⟨_, 57, rfl, rfl, (CS.retI (CX.pure (CE.isub (CE.iload_n rfl dX1_sizeOf_57 zhd) (CE.idiv (CE.iload_n rfl dX1_sizeOf_58 zhd) (CE.bipush kB_50 dX1_sizeOf_59 zhd) dX1_sizeOf_61 zhd) dX1_sizeOf_62 zhd)) dX1_sizeOf_63)⟩, ⟨by decide, ⟨_, 75, rfl, rfl, (CS.retI (CX.pure (CE.iload_n rfl dX1_sizeOf_75 zhd)) dX1_sizeOf_76)⟩, ⟨by decide, ⟨_, 64, rfl, rfl, (CS.retI (CX.pure (CE.iadd (CE.iload_n rfl dX1_sizeOf_64 zhd) (CE.iconst kI_2 dX1_sizeOf_65 zhd) dX1_sizeOf_66 zhd)) dX1_sizeOf_67)⟩, ⟨by decide, ⟨_, 68, rfl, rfl, (CS.retI (CX.pure (CE.iadd (CE.callS (by decide) (CA.int (CE.iload_n rfl dX1_sizeOf_68 zhd) CA.nil) zi_16 cs_X1_38 (fun _ => rfl) dX1_sizeOf_69 zhd) (CE.iconst kI_1 dX1_sizeOf_72 zhd) dX1_sizeOf_73 zhd)) dX1_sizeOf_74)⟩, trivial⟩⟩⟩⟩⟩⟩ rfl (CS.retI (CX.pure (CE.iload_n rfl dX1_sizeOf_75 zhd)) dX1_sizeOf_76)))
theorem dX1_priceOf_0 : decode cX1_priceOf 0 = .ok (.aload_n 0, 1) := by decide +kernel
theorem dX1_priceOf_1 : decode cX1_priceOf 1 = .ok (.getfield 29, 3) := by decide +kernel
theorem dX1_priceOf_4 : decode cX1_priceOf 4 = .ok (.iload_n 2, 1) := by decide +kernel
theorem dX1_priceOf_5 : decode cX1_priceOf 5 = .ok (.iaload, 1) := by decide +kernel
theorem dX1_priceOf_6 : decode cX1_priceOf 6 = .ok (.istore_n 3, 1) := by decide +kernel
theorem dX1_priceOf_7 : decode cX1_priceOf 7 = .ok (.aload_n 0, 1) := by decide +kernel
theorem dX1_priceOf_8 : decode cX1_priceOf 8 = .ok (.getfield 9, 3) := by decide +kernel
theorem dX1_priceOf_11 : decode cX1_priceOf 11 = .ok (.iload_n 1, 1) := by decide +kernel
theorem dX1_priceOf_12 : decode cX1_priceOf 12 = .ok (.iaload, 1) := by decide +kernel
theorem dX1_priceOf_13 : decode cX1_priceOf 13 = .ok (.tableswitch 68 1 6 #[39, 44, 48, 52, 56, 61], 39) := by decide +kernel
theorem dX1_priceOf_52 : decode cX1_priceOf 52 = .ok (.iload_n 3, 1) := by decide +kernel
theorem dX1_priceOf_53 : decode cX1_priceOf 53 = .ok (.invokestatic 42, 3) := by decide +kernel
theorem dX1_priceOf_56 : decode cX1_priceOf 56 = .ok (.ireturn, 1) := by decide +kernel
theorem dX1_priceOf_57 : decode cX1_priceOf 57 = .ok (.iload_n 3, 1) := by decide +kernel
theorem dX1_priceOf_58 : decode cX1_priceOf 58 = .ok (.iconst 3, 1) := by decide +kernel
theorem dX1_priceOf_59 : decode cX1_priceOf 59 = .ok (.iadd, 1) := by decide +kernel
theorem dX1_priceOf_60 : decode cX1_priceOf 60 = .ok (.ireturn, 1) := by decide +kernel
theorem dX1_priceOf_61 : decode cX1_priceOf 61 = .ok (.iconst 3, 1) := by decide +kernel
theorem dX1_priceOf_62 : decode cX1_priceOf 62 = .ok (.iload_n 3, 1) := by decide +kernel
theorem dX1_priceOf_63 : decode cX1_priceOf 63 = .ok (.imul, 1) := by decide +kernel
theorem dX1_priceOf_64 : decode cX1_priceOf 64 = .ok (.ireturn, 1) := by decide +kernel
theorem dX1_priceOf_65 : decode cX1_priceOf 65 = .ok (.iload_n 3, 1) := by decide +kernel
theorem dX1_priceOf_66 : decode cX1_priceOf 66 = .ok (.iconst 2, 1) := by decide +kernel
theorem dX1_priceOf_67 : decode cX1_priceOf 67 = .ok (.idiv, 1) := by decide +kernel
theorem dX1_priceOf_68 : decode cX1_priceOf 68 = .ok (.ireturn, 1) := by decide +kernel
theorem dX1_priceOf_69 : decode cX1_priceOf 69 = .ok (.iload_n 3, 1) := by decide +kernel
theorem dX1_priceOf_70 : decode cX1_priceOf 70 = .ok (.bipush 10, 2) := by decide +kernel
theorem dX1_priceOf_72 : decode cX1_priceOf 72 = .ok (.iadd, 1) := by decide +kernel
theorem dX1_priceOf_73 : decode cX1_priceOf 73 = .ok (.ireturn, 1) := by decide +kernel
theorem dX1_priceOf_74 : decode cX1_priceOf 74 = .ok (.iload_n 3, 1) := by decide +kernel
theorem dX1_priceOf_75 : decode cX1_priceOf 75 = .ok (.invokestatic 42, 3) := by decide +kernel
theorem dX1_priceOf_78 : decode cX1_priceOf 78 = .ok (.iconst 1, 1) := by decide +kernel
theorem dX1_priceOf_79 : decode cX1_priceOf 79 = .ok (.iadd, 1) := by decide +kernel
theorem dX1_priceOf_80 : decode cX1_priceOf 80 = .ok (.ireturn, 1) := by decide +kernel
theorem dX1_priceOf_81 : decode cX1_priceOf 81 = .ok (.iload_n 3, 1) := by decide +kernel
theorem dX1_priceOf_82 : decode cX1_priceOf 82 = .ok (.ireturn, 1) := by decide +kernel
theorem cd_15 (G : ZG) (d : Nat) (K : ZKt) (F : ZFt) (hT : zt5 G.2.2.2) : CS G RX1 cX1_priceOf 4 d K (some .int) [] (fun _ => []) 0 (bd_15 G.2.2.2 K F) := by
  unfold bd_15
  exact (CS.seq 7 (CS.decI_n (CX.pure (CE.aldI (CE.getR (CE.aload_n rfl dX1_priceOf_0 zhd) fs_X1_29 dX1_priceOf_1 zhd) (CE.iload_n rfl dX1_priceOf_4 zhd) (Or.inl ⟨rfl, dX1_priceOf_5⟩) zhd)) rfl (by decide) dX1_priceOf_6 zhd)
  (CS.sw (qd := 81) (CX.pure (CE.aldI (CE.getR (CE.aload_n rfl dX1_priceOf_7 zhd) fs_X1_9 dX1_priceOf_8 zhd) (CE.iload_n rfl dX1_priceOf_11 zhd) (Or.inl ⟨rfl, dX1_priceOf_12⟩) zhd)) dX1_priceOf_13 rfl ⟨by decide, ⟨_, 52, rfl, rfl, (CS.retI (CX.pure (CE.callS (by decide) (CA.int (CE.iload_n rfl dX1_priceOf_52 zhd) CA.nil) zi_17 cs_X1_42 (fun _ => rfl) dX1_priceOf_53 zhd)) dX1_priceOf_56)⟩, ⟨by decide, ⟨_, 57, rfl, rfl, (CS.retI (CX.pure (CE.iadd (CE.iload_n rfl dX1_priceOf_57 zhd) (CE.iconst kI_3 dX1_priceOf_58 zhd) dX1_priceOf_59 zhd)) dX1_priceOf_60)⟩, ⟨by decide, ⟨_, 61, rfl, rfl, (CS.retI (CX.pure (CE.imul (CE.iconst kI_3 dX1_priceOf_61 zhd) (CE.iload_n rfl dX1_priceOf_62 zhd) dX1_priceOf_63 zhd)) dX1_priceOf_64)⟩, ⟨by decide, ⟨_, 65, rfl, rfl, (CS.retI (CX.pure (CE.idiv (CE.iload_n rfl dX1_priceOf_65 zhd) (CE.iconst kI_2 dX1_priceOf_66 zhd) dX1_priceOf_67 zhd)) dX1_priceOf_68)⟩, ⟨by decide, ⟨_, 69, rfl, rfl, (CS.retI (CX.pure (CE.iadd (CE.iload_n rfl dX1_priceOf_69 zhd) (CE.bipush kB_10 dX1_priceOf_70 zhd) dX1_priceOf_72 zhd)) dX1_priceOf_73)⟩, ⟨by decide, ⟨_, 74, rfl, rfl, (CS.retI (CX.pure (CE.iadd (CE.callS (by decide) (CA.int (CE.iload_n rfl dX1_priceOf_74 zhd) CA.nil) zi_17 cs_X1_42 (fun _ => rfl) dX1_priceOf_75 zhd) (CE.iconst kI_1 dX1_priceOf_78 zhd) dX1_priceOf_79 zhd)) dX1_priceOf_80)⟩, trivial⟩⟩⟩⟩⟩⟩ rfl (CS.retI (CX.pure (CE.iload_n rfl dX1_priceOf_81 zhd)) dX1_priceOf_82)))
theorem dX1_turnedSize_0 : decode cX1_turnedSize 0 = .ok (.iload_n 0, 1) := by decide +kernel
theorem dX1_turnedSize_1 : decode cX1_turnedSize 1 = .ok (.iconst 1, 1) := by decide +kernel
theorem dX1_turnedSize_2 : decode cX1_turnedSize 2 = .ok (.isub, 1) := by decide +kernel
theorem dX1_turnedSize_3 : decode cX1_turnedSize 3 = .ok (.ireturn, 1) := by decide +kernel
theorem cd_16 (G : ZG) (d : Nat) (K : ZKt) (F : ZFt) (hT : zt5 G.2.2.2) : CS G RX1 cX1_turnedSize 1 d K (some .int) [] (fun _ => []) 0 (bd_16 G.2.2.2 K F) := by
  unfold bd_16
  exact (CS.retI (CX.pure (CE.isub (CE.iload_n rfl dX1_turnedSize_0 zhd) (CE.iconst kI_1 dX1_turnedSize_1 zhd) dX1_turnedSize_2 zhd)) dX1_turnedSize_3)
theorem dX1_turnedPrice_0 : decode cX1_turnedPrice 0 = .ok (.iconst 2, 1) := by decide +kernel
theorem dX1_turnedPrice_1 : decode cX1_turnedPrice 1 = .ok (.iload_n 0, 1) := by decide +kernel
theorem dX1_turnedPrice_2 : decode cX1_turnedPrice 2 = .ok (.imul, 1) := by decide +kernel
theorem dX1_turnedPrice_3 : decode cX1_turnedPrice 3 = .ok (.ireturn, 1) := by decide +kernel
theorem cd_17 (G : ZG) (d : Nat) (K : ZKt) (F : ZFt) (hT : zt5 G.2.2.2) : CS G RX1 cX1_turnedPrice 1 d K (some .int) [] (fun _ => []) 0 (bd_17 G.2.2.2 K F) := by
  unfold bd_17
  exact (CS.retI (CX.pure (CE.imul (CE.iconst kI_2 dX1_turnedPrice_0 zhd) (CE.iload_n rfl dX1_turnedPrice_1 zhd) dX1_turnedPrice_2 zhd)) dX1_turnedPrice_3)
theorem dX1_offBy_0 : decode cX1_offBy 0 = .ok (.aload_n 0, 1) := by decide +kernel
theorem dX1_offBy_1 : decode cX1_offBy 1 = .ok (.getfield 23, 3) := by decide +kernel
theorem dX1_offBy_4 : decode cX1_offBy 4 = .ok (.iload_n 1, 1) := by decide +kernel
theorem dX1_offBy_5 : decode cX1_offBy 5 = .ok (.aaload, 1) := by decide +kernel
theorem dX1_offBy_6 : decode cX1_offBy 6 = .ok (.iload_n 2, 1) := by decide +kernel
theorem dX1_offBy_7 : decode cX1_offBy 7 = .ok (.iconst 4, 1) := by decide +kernel
theorem dX1_offBy_8 : decode cX1_offBy 8 = .ok (.iadd, 1) := by decide +kernel
theorem dX1_offBy_9 : decode cX1_offBy 9 = .ok (.iaload, 1) := by decide +kernel
theorem dX1_offBy_10 : decode cX1_offBy 10 = .ok (.istore_n 3, 1) := by decide +kernel
theorem dX1_offBy_11 : decode cX1_offBy 11 = .ok (.iload_n 2, 1) := by decide +kernel
theorem dX1_offBy_12 : decode cX1_offBy 12 = .ok (.ifCond .ne 15, 3) := by decide +kernel
theorem dX1_offBy_15 : decode cX1_offBy 15 = .ok (.aload_n 0, 1) := by decide +kernel
theorem dX1_offBy_16 : decode cX1_offBy 16 = .ok (.iload_n 1, 1) := by decide +kernel
theorem dX1_offBy_17 : decode cX1_offBy 17 = .ok (.invokevirtual 45, 3) := by decide +kernel
theorem dX1_offBy_20 : decode cX1_offBy 20 = .ok (.ifCond .eq 7, 3) := by decide +kernel
theorem dX1_offBy_23 : decode cX1_offBy 23 = .ok (.iconst 1, 1) := by decide +kernel
theorem dX1_offBy_24 : decode cX1_offBy 24 = .ok (.goto 4, 3) := by decide +kernel
theorem dX1_offBy_27 : decode cX1_offBy 27 = .ok (.iload_n 3, 1) := by decide +kernel
theorem dX1_offBy_28 : decode cX1_offBy 28 = .ok (.ireturn, 1) := by decide +kernel
theorem cd_18 (G : ZG) (d : Nat) (K : ZKt) (F : ZFt) (hT : zt5 G.2.2.2) : CS G RX1 cX1_offBy 4 d K (some .int) [] (fun _ => []) 0 (bd_18 G.2.2.2 K F) := by
  unfold bd_18
  exact (CS.seq 11 (CS.decI_n (CX.pure (CE.aldI (CE.aldR (CE.getR (CE.aload_n rfl dX1_offBy_0 zhd) fs_X1_23 dX1_offBy_1 zhd) (CE.iload_n rfl dX1_offBy_4 zhd) dX1_offBy_5 zhd) (CE.iadd (CE.iload_n rfl dX1_offBy_6 zhd) (CE.iconst kI_4 dX1_offBy_7 zhd) dX1_offBy_8 zhd) (Or.inl ⟨rfl, dX1_offBy_9⟩) zhd)) rfl (by decide) dX1_offBy_10 zhd)
  (CS.retI (CX.pure (CE.tern (T := 23) (F := 27) (p1 := 24) (q := 28) (CC.and (CC.if_eq_F (T := 15) (F := 27) (CE.iload_n rfl dX1_offBy_11 zhd) dX1_offBy_12 rfl rfl) (CC.if_ne_F (T := 23) (F := 27) (CE.callV (by decide) (CA.ref (CE.aload_n rfl dX1_offBy_15 zhd) (CA.int (CE.iload_n rfl dX1_offBy_16 zhd) CA.nil)) zi_19 cv_X1_45 (fun _ => rfl) dX1_offBy_17 zhd) dX1_offBy_20 rfl rfl)) (CE.iconst kI_1 dX1_offBy_23 zhd) zex2 dX1_offBy_24 rfl zhd (CE.iload_n rfl dX1_offBy_27 zhd))) dX1_offBy_28))
theorem dX1_noneCounted_0 : decode cX1_noneCounted 0 = .ok (.aload_n 0, 1) := by decide +kernel
theorem dX1_noneCounted_1 : decode cX1_noneCounted 1 = .ok (.getfield 23, 3) := by decide +kernel
theorem dX1_noneCounted_4 : decode cX1_noneCounted 4 = .ok (.iload_n 1, 1) := by decide +kernel
theorem dX1_noneCounted_5 : decode cX1_noneCounted 5 = .ok (.aaload, 1) := by decide +kernel
theorem dX1_noneCounted_6 : decode cX1_noneCounted 6 = .ok (.astore_n 2, 1) := by decide +kernel
theorem dX1_noneCounted_7 : decode cX1_noneCounted 7 = .ok (.aload_n 2, 1) := by decide +kernel
theorem dX1_noneCounted_8 : decode cX1_noneCounted 8 = .ok (.arraylength, 1) := by decide +kernel
theorem dX1_noneCounted_9 : decode cX1_noneCounted 9 = .ok (.istore_n 3, 1) := by decide +kernel
theorem dX1_noneCounted_10 : decode cX1_noneCounted 10 = .ok (.iconst 0, 1) := by decide +kernel
theorem dX1_noneCounted_11 : decode cX1_noneCounted 11 = .ok (.istore 4, 2) := by decide +kernel
theorem dX1_noneCounted_13 : decode cX1_noneCounted 13 = .ok (.iload 4, 2) := by decide +kernel
theorem dX1_noneCounted_15 : decode cX1_noneCounted 15 = .ok (.iload_n 3, 1) := by decide +kernel
theorem dX1_noneCounted_16 : decode cX1_noneCounted 16 = .ok (.if_icmp .ge 22, 3) := by decide +kernel
theorem dX1_noneCounted_19 : decode cX1_noneCounted 19 = .ok (.aload_n 2, 1) := by decide +kernel
theorem dX1_noneCounted_20 : decode cX1_noneCounted 20 = .ok (.iload 4, 2) := by decide +kernel
theorem dX1_noneCounted_22 : decode cX1_noneCounted 22 = .ok (.iaload, 1) := by decide +kernel
theorem dX1_noneCounted_23 : decode cX1_noneCounted 23 = .ok (.istore 5, 2) := by decide +kernel
theorem dX1_noneCounted_25 : decode cX1_noneCounted 25 = .ok (.iload 5, 2) := by decide +kernel
theorem dX1_noneCounted_27 : decode cX1_noneCounted 27 = .ok (.ifCond .eq 5, 3) := by decide +kernel
theorem dX1_noneCounted_30 : decode cX1_noneCounted 30 = .ok (.iconst 0, 1) := by decide +kernel
theorem dX1_noneCounted_31 : decode cX1_noneCounted 31 = .ok (.ireturn, 1) := by decide +kernel
theorem dX1_noneCounted_32 : decode cX1_noneCounted 32 = .ok (.iinc 4 1, 3) := by decide +kernel
theorem dX1_noneCounted_35 : decode cX1_noneCounted 35 = .ok (.goto (-22), 3) := by decide +kernel
theorem dX1_noneCounted_38 : decode cX1_noneCounted 38 = .ok (.iconst 1, 1) := by decide +kernel
theorem dX1_noneCounted_39 : decode cX1_noneCounted 39 = .ok (.ireturn, 1) := by decide +kernel
theorem cd_19 (G : ZG) (d : Nat) (K : ZKt) (F : ZFt) (hT : zt5 G.2.2.2) : CS G RX1 cX1_noneCounted 6 d K (some .boolean) [] (fun _ => []) 0 (bd_19 G.2.2.2 K F) := by
  unfold bd_19
  exact (CS.seq 38 (CS.scope (CS.seq 7 (CS.decR_n (CX.pure (CE.aldR (CE.getR (CE.aload_n rfl dX1_noneCounted_0 zhd) fs_X1_23 dX1_noneCounted_1 zhd) (CE.iload_n rfl dX1_noneCounted_4 zhd) dX1_noneCounted_5 zhd)) rfl (by decide) dX1_noneCounted_6 zhd)
  (CS.seq 10 (CS.decI_n (CX.pure (CE.alen (CE.aload_n rfl dX1_noneCounted_7 zhd) dX1_noneCounted_8 zhd hT)) rfl (by decide) dX1_noneCounted_9 zhd)
  (CS.seq 13 (CS.decI (CX.pure (CE.iconst kI_0 dX1_noneCounted_10 zhd)) (by decide) dX1_noneCounted_11 zhd)
  (CS.whl (T := 19) (F := 38) (p1 := 35) (CD.pure (CC.icmp_lt_F (T := 19) (F := 38) (CE.iload dX1_noneCounted_13 zhd) (CE.iload_n rfl dX1_noneCounted_15 zhd) dX1_noneCounted_16 rfl rfl))
  (CS.seq 32 (CS.scope (CS.seq 25 (CS.decI (CX.pure (CE.aldI (CE.aload_n rfl dX1_noneCounted_19 zhd) (CE.iload dX1_noneCounted_20 zhd) (Or.inl ⟨rfl, dX1_noneCounted_22⟩) zhd)) (by decide) dX1_noneCounted_23 zhd)
  (CS.if1 (T := 30) (F := 32) (CD.pure (CC.if_ne_F (T := 30) (F := 32) (CE.iload dX1_noneCounted_25 zhd) dX1_noneCounted_27 rfl rfl)) (CS.retZ (CX.pure (CE.iconst kI_0 dX1_noneCounted_30 zhd)) dX1_noneCounted_31) zhd)))
  (CS.inc kI_1 (by decide) dX1_noneCounted_32 zhd)) dX1_noneCounted_35 rfl zhd)))))
  (CS.retZ (CX.pure (CE.iconst kI_1 dX1_noneCounted_38 zhd)) dX1_noneCounted_39))
theorem dX1_fold_0 : decode cX1_fold 0 = .ok (.lload_n 1, 1) := by decide +kernel
theorem dX1_fold_1 : decode cX1_fold 1 = .ok (.lstore_n 3, 1) := by decide +kernel
theorem dX1_fold_2 : decode cX1_fold 2 = .ok (.iconst 0, 1) := by decide +kernel
theorem dX1_fold_3 : decode cX1_fold 3 = .ok (.istore 5, 2) := by decide +kernel
theorem dX1_fold_5 : decode cX1_fold 5 = .ok (.iload 5, 2) := by decide +kernel
theorem dX1_fold_7 : decode cX1_fold 7 = .ok (.bipush 8, 2) := by decide +kernel
theorem dX1_fold_9 : decode cX1_fold 9 = .ok (.if_icmp .ge 74, 3) := by decide +kernel
theorem dX1_fold_12 : decode cX1_fold 12 = .ok (.lload_n 3, 1) := by decide +kernel
theorem dX1_fold_13 : decode cX1_fold 13 = .ok (.aload_n 0, 1) := by decide +kernel
theorem dX1_fold_14 : decode cX1_fold 14 = .ok (.getfield 9, 3) := by decide +kernel
theorem dX1_fold_17 : decode cX1_fold 17 = .ok (.iload 5, 2) := by decide +kernel
theorem dX1_fold_19 : decode cX1_fold 19 = .ok (.iaload, 1) := by decide +kernel
theorem dX1_fold_20 : decode cX1_fold 20 = .ok (.i2l, 1) := by decide +kernel
theorem dX1_fold_21 : decode cX1_fold 21 = .ok (.invokestatic 49, 3) := by decide +kernel
theorem dX1_fold_24 : decode cX1_fold 24 = .ok (.aload_n 0, 1) := by decide +kernel
theorem dX1_fold_25 : decode cX1_fold 25 = .ok (.getfield 15, 3) := by decide +kernel
theorem dX1_fold_28 : decode cX1_fold 28 = .ok (.iload 5, 2) := by decide +kernel
theorem dX1_fold_30 : decode cX1_fold 30 = .ok (.iaload, 1) := by decide +kernel
theorem dX1_fold_31 : decode cX1_fold 31 = .ok (.i2l, 1) := by decide +kernel
theorem dX1_fold_32 : decode cX1_fold 32 = .ok (.invokestatic 49, 3) := by decide +kernel
theorem dX1_fold_35 : decode cX1_fold 35 = .ok (.aload_n 0, 1) := by decide +kernel
theorem dX1_fold_36 : decode cX1_fold 36 = .ok (.getfield 18, 3) := by decide +kernel
theorem dX1_fold_39 : decode cX1_fold 39 = .ok (.iload 5, 2) := by decide +kernel
theorem dX1_fold_41 : decode cX1_fold 41 = .ok (.iaload, 1) := by decide +kernel
theorem dX1_fold_42 : decode cX1_fold 42 = .ok (.i2l, 1) := by decide +kernel
theorem dX1_fold_43 : decode cX1_fold 43 = .ok (.invokestatic 49, 3) := by decide +kernel
theorem dX1_fold_46 : decode cX1_fold 46 = .ok (.lstore_n 3, 1) := by decide +kernel
theorem dX1_fold_47 : decode cX1_fold 47 = .ok (.lload_n 3, 1) := by decide +kernel
theorem dX1_fold_48 : decode cX1_fold 48 = .ok (.aload_n 0, 1) := by decide +kernel
theorem dX1_fold_49 : decode cX1_fold 49 = .ok (.iload 5, 2) := by decide +kernel
theorem dX1_fold_51 : decode cX1_fold 51 = .ok (.invokevirtual 53, 3) := by decide +kernel
theorem dX1_fold_54 : decode cX1_fold 54 = .ok (.i2l, 1) := by decide +kernel
theorem dX1_fold_55 : decode cX1_fold 55 = .ok (.invokestatic 49, 3) := by decide +kernel
theorem dX1_fold_58 : decode cX1_fold 58 = .ok (.aload_n 0, 1) := by decide +kernel
theorem dX1_fold_59 : decode cX1_fold 59 = .ok (.getfield 23, 3) := by decide +kernel
theorem dX1_fold_62 : decode cX1_fold 62 = .ok (.iload 5, 2) := by decide +kernel
theorem dX1_fold_64 : decode cX1_fold 64 = .ok (.aaload, 1) := by decide +kernel
theorem dX1_fold_65 : decode cX1_fold 65 = .ok (.aload_n 0, 1) := by decide +kernel
theorem dX1_fold_66 : decode cX1_fold 66 = .ok (.getfield 23, 3) := by decide +kernel
theorem dX1_fold_69 : decode cX1_fold 69 = .ok (.iload 5, 2) := by decide +kernel
theorem dX1_fold_71 : decode cX1_fold 71 = .ok (.aaload, 1) := by decide +kernel
theorem dX1_fold_72 : decode cX1_fold 72 = .ok (.arraylength, 1) := by decide +kernel
theorem dX1_fold_73 : decode cX1_fold 73 = .ok (.invokestatic 56, 3) := by decide +kernel
theorem dX1_fold_76 : decode cX1_fold 76 = .ok (.lstore_n 3, 1) := by decide +kernel
theorem dX1_fold_77 : decode cX1_fold 77 = .ok (.iinc 5 1, 3) := by decide +kernel
theorem dX1_fold_80 : decode cX1_fold 80 = .ok (.goto (-75), 3) := by decide +kernel
theorem dX1_fold_83 : decode cX1_fold 83 = .ok (.iconst 0, 1) := by decide +kernel
theorem dX1_fold_84 : decode cX1_fold 84 = .ok (.istore 5, 2) := by decide +kernel
theorem dX1_fold_86 : decode cX1_fold 86 = .ok (.iload 5, 2) := by decide +kernel
theorem dX1_fold_88 : decode cX1_fold 88 = .ok (.iconst 4, 1) := by decide +kernel
theorem dX1_fold_89 : decode cX1_fold 89 = .ok (.if_icmp .ge 33, 3) := by decide +kernel
theorem dX1_fold_92 : decode cX1_fold 92 = .ok (.lload_n 3, 1) := by decide +kernel
theorem dX1_fold_93 : decode cX1_fold 93 = .ok (.aload_n 0, 1) := by decide +kernel
theorem dX1_fold_94 : decode cX1_fold 94 = .ok (.getfield 26, 3) := by decide +kernel
theorem dX1_fold_97 : decode cX1_fold 97 = .ok (.iload 5, 2) := by decide +kernel
theorem dX1_fold_99 : decode cX1_fold 99 = .ok (.iaload, 1) := by decide +kernel
theorem dX1_fold_100 : decode cX1_fold 100 = .ok (.i2l, 1) := by decide +kernel
theorem dX1_fold_101 : decode cX1_fold 101 = .ok (.invokestatic 49, 3) := by decide +kernel
theorem dX1_fold_104 : decode cX1_fold 104 = .ok (.aload_n 0, 1) := by decide +kernel
theorem dX1_fold_105 : decode cX1_fold 105 = .ok (.getfield 29, 3) := by decide +kernel
theorem dX1_fold_108 : decode cX1_fold 108 = .ok (.iload 5, 2) := by decide +kernel
theorem dX1_fold_110 : decode cX1_fold 110 = .ok (.iaload, 1) := by decide +kernel
theorem dX1_fold_111 : decode cX1_fold 111 = .ok (.i2l, 1) := by decide +kernel
theorem dX1_fold_112 : decode cX1_fold 112 = .ok (.invokestatic 49, 3) := by decide +kernel
theorem dX1_fold_115 : decode cX1_fold 115 = .ok (.lstore_n 3, 1) := by decide +kernel
theorem dX1_fold_116 : decode cX1_fold 116 = .ok (.iinc 5 1, 3) := by decide +kernel
theorem dX1_fold_119 : decode cX1_fold 119 = .ok (.goto (-33), 3) := by decide +kernel
theorem dX1_fold_122 : decode cX1_fold 122 = .ok (.lload_n 3, 1) := by decide +kernel
theorem dX1_fold_123 : decode cX1_fold 123 = .ok (.lreturn, 1) := by decide +kernel
theorem cd_20 (G : ZG) (d : Nat) (K : ZKt) (F : ZFt) (hT : zt5 G.2.2.2) : CS G RX1 cX1_fold 6 d K (some .long) [] (fun _ => []) 0 (bd_20 G.2.2.2 K F) := by
  unfold bd_20
  exact (CS.seq 2 (CS.decL_n (CX.pure (CE.lload_n rfl dX1_fold_0 zhd)) rfl (by decide) dX1_fold_1 zhd)
  (CS.seq 83 (CS.scope (CS.seq 5 (CS.decI (CX.pure (CE.iconst kI_0 dX1_fold_2 zhd)) (by decide) dX1_fold_3 zhd)
  (CS.whl (T := 12) (F := 83) (p1 := 80) (CD.pure (CC.icmp_lt_F (T := 12) (F := 83) (CE.iload dX1_fold_5 zhd) (CE.bipush kB_8 dX1_fold_7 zhd) dX1_fold_9 rfl rfl))
  (CS.seq 77 (CS.seq 47 (CS.setL_n (CX.pure (CE.callS (by decide) (CA.long (CE.callS (by decide) (CA.long (CE.callS (by decide) (CA.long (CE.lload_n rfl dX1_fold_12 zhd) (CA.long (CE.i2l (CE.aldI (CE.getR (CE.aload_n rfl dX1_fold_13 zhd) fs_X1_9 dX1_fold_14 zhd) (CE.iload dX1_fold_17 zhd) (Or.inl ⟨rfl, dX1_fold_19⟩) zhd) dX1_fold_20 zhd) CA.nil)) zi_132 cs_X1_49 (fun _ => rfl) dX1_fold_21 zhd) (CA.long (CE.i2l (CE.aldI (CE.getR (CE.aload_n rfl dX1_fold_24 zhd) fs_X1_15 dX1_fold_25 zhd) (CE.iload dX1_fold_28 zhd) (Or.inl ⟨rfl, dX1_fold_30⟩) zhd) dX1_fold_31 zhd) CA.nil)) zi_132 cs_X1_49 (fun _ => rfl) dX1_fold_32 zhd) (CA.long (CE.i2l (CE.aldI (CE.getR (CE.aload_n rfl dX1_fold_35 zhd) fs_X1_18 dX1_fold_36 zhd) (CE.iload dX1_fold_39 zhd) (Or.inl ⟨rfl, dX1_fold_41⟩) zhd) dX1_fold_42 zhd) CA.nil)) zi_132 cs_X1_49 (fun _ => rfl) dX1_fold_43 zhd)) rfl (by decide) dX1_fold_46 zhd)
  (CS.setL_n (CX.pure (CE.callS (by decide) (CA.long (CE.callS (by decide) (CA.long (CE.lload_n rfl dX1_fold_47 zhd) (CA.long (CE.i2l (CE.callV (by decide) (CA.ref (CE.aload_n rfl dX1_fold_48 zhd) (CA.int (CE.iload dX1_fold_49 zhd) CA.nil)) zi_14 cv_X1_53 (fun _ => rfl) dX1_fold_51 zhd) dX1_fold_54 zhd) CA.nil)) zi_132 cs_X1_49 (fun _ => rfl) dX1_fold_55 zhd) (CA.ref (CE.aldR (CE.getR (CE.aload_n rfl dX1_fold_58 zhd) fs_X1_23 dX1_fold_59 zhd) (CE.iload dX1_fold_62 zhd) dX1_fold_64 zhd) (CA.int (CE.alen (CE.aldR (CE.getR (CE.aload_n rfl dX1_fold_65 zhd) fs_X1_23 dX1_fold_66 zhd) (CE.iload dX1_fold_69 zhd) dX1_fold_71 zhd) dX1_fold_72 zhd hT) CA.nil))) zi_133 cs_X1_56 (fun _ => rfl) dX1_fold_73 zhd)) rfl (by decide) dX1_fold_76 zhd))
  (CS.inc kI_1 (by decide) dX1_fold_77 zhd)) dX1_fold_80 rfl zhd)))
  (CS.seq 122 (CS.scope (CS.seq 86 (CS.decI (CX.pure (CE.iconst kI_0 dX1_fold_83 zhd)) (by decide) dX1_fold_84 zhd)
  (CS.whl (T := 92) (F := 122) (p1 := 119) (CD.pure (CC.icmp_lt_F (T := 92) (F := 122) (CE.iload dX1_fold_86 zhd) (CE.iconst kI_4 dX1_fold_88 zhd) dX1_fold_89 rfl rfl))
  (CS.seq 116 (CS.setL_n (CX.pure (CE.callS (by decide) (CA.long (CE.callS (by decide) (CA.long (CE.lload_n rfl dX1_fold_92 zhd) (CA.long (CE.i2l (CE.aldI (CE.getR (CE.aload_n rfl dX1_fold_93 zhd) fs_X1_26 dX1_fold_94 zhd) (CE.iload dX1_fold_97 zhd) (Or.inl ⟨rfl, dX1_fold_99⟩) zhd) dX1_fold_100 zhd) CA.nil)) zi_132 cs_X1_49 (fun _ => rfl) dX1_fold_101 zhd) (CA.long (CE.i2l (CE.aldI (CE.getR (CE.aload_n rfl dX1_fold_104 zhd) fs_X1_29 dX1_fold_105 zhd) (CE.iload dX1_fold_108 zhd) (Or.inl ⟨rfl, dX1_fold_110⟩) zhd) dX1_fold_111 zhd) CA.nil)) zi_132 cs_X1_49 (fun _ => rfl) dX1_fold_112 zhd)) rfl (by decide) dX1_fold_115 zhd)
  (CS.inc kI_1 (by decide) dX1_fold_116 zhd)) dX1_fold_119 rfl zhd)))
  (CS.retL (CX.pure (CE.lload_n rfl dX1_fold_122 zhd)) dX1_fold_123))))
theorem dX2_search_0 : decode cX2_search 0 = .ok (.aload_n 0, 1) := by decide +kernel
theorem dX2_search_1 : decode cX2_search 1 = .ok (.dup, 1) := by decide +kernel
theorem dX2_search_2 : decode cX2_search 2 = .ok (.getfield 29, 3) := by decide +kernel
theorem dX2_search_5 : decode cX2_search 5 = .ok (.iconst 1, 1) := by decide +kernel
theorem dX2_search_6 : decode cX2_search 6 = .ok (.iadd, 1) := by decide +kernel
theorem dX2_search_7 : decode cX2_search 7 = .ok (.putfield 29, 3) := by decide +kernel
theorem dX2_search_10 : decode cX2_search 10 = .ok (.aload_n 0, 1) := by decide +kernel
theorem dX2_search_11 : decode cX2_search 11 = .ok (.iload_n 1, 1) := by decide +kernel
theorem dX2_search_12 : decode cX2_search 12 = .ok (.bipush 6, 2) := by decide +kernel
theorem dX2_search_14 : decode cX2_search 14 = .ok (.invokestatic 33, 3) := by decide +kernel
theorem dX2_search_17 : decode cX2_search 17 = .ok (.putfield 39, 3) := by decide +kernel
theorem dX2_search_20 : decode cX2_search 20 = .ok (.aload_n 0, 1) := by decide +kernel
theorem dX2_search_21 : decode cX2_search 21 = .ok (.aload_n 3, 1) := by decide +kernel
theorem dX2_search_22 : decode cX2_search 22 = .ok (.getfield 42, 3) := by decide +kernel
theorem dX2_search_25 : decode cX2_search 25 = .ok (.putfield 45, 3) := by decide +kernel
theorem dX2_search_28 : decode cX2_search 28 = .ok (.aload_n 0, 1) := by decide +kernel
theorem dX2_search_29 : decode cX2_search 29 = .ok (.iconst (-1), 1) := by decide +kernel
theorem dX2_search_30 : decode cX2_search 30 = .ok (.putfield 48, 3) := by decide +kernel
theorem dX2_search_33 : decode cX2_search 33 = .ok (.iconst 0, 1) := by decide +kernel
theorem dX2_search_34 : decode cX2_search 34 = .ok (.istore 4, 2) := by decide +kernel
theorem dX2_search_36 : decode cX2_search 36 = .ok (.iload 4, 2) := by decide +kernel
theorem dX2_search_38 : decode cX2_search 38 = .ok (.aload_n 0, 1) := by decide +kernel
theorem dX2_search_39 : decode cX2_search 39 = .ok (.getfield 45, 3) := by decide +kernel
theorem dX2_search_42 : decode cX2_search 42 = .ok (.if_icmp .ge 17, 3) := by decide +kernel
theorem dX2_search_45 : decode cX2_search 45 = .ok (.aload_n 0, 1) := by decide +kernel
theorem dX2_search_46 : decode cX2_search 46 = .ok (.iload 4, 2) := by decide +kernel
theorem dX2_search_48 : decode cX2_search 48 = .ok (.aload_n 2, 1) := by decide +kernel
theorem dX2_search_49 : decode cX2_search 49 = .ok (.aload_n 3, 1) := by decide +kernel
theorem dX2_search_50 : decode cX2_search 50 = .ok (.invokevirtual 51, 3) := by decide +kernel
theorem dX2_search_53 : decode cX2_search 53 = .ok (.iinc 4 1, 3) := by decide +kernel
theorem dX2_search_56 : decode cX2_search 56 = .ok (.goto (-20), 3) := by decide +kernel
theorem dX2_search_59 : decode cX2_search 59 = .ok (.aload_n 0, 1) := by decide +kernel
theorem dX2_search_60 : decode cX2_search 60 = .ok (.iconst 0, 1) := by decide +kernel
theorem dX2_search_61 : decode cX2_search 61 = .ok (.iconst 0, 1) := by decide +kernel
theorem dX2_search_62 : decode cX2_search 62 = .ok (.aload_n 2, 1) := by decide +kernel
theorem dX2_search_63 : decode cX2_search 63 = .ok (.invokevirtual 55, 3) := by decide +kernel
theorem dX2_search_66 : decode cX2_search 66 = .ok (.return_, 1) := by decide +kernel
theorem cd_21 (G : ZG) (d : Nat) (K : ZKt) (F : ZFt) (hT : zt5 G.2.2.2) : CS G RX2 cX2_search 5 d K (none) [] (fun _ => []) 0 (bd_21 G.2.2.2 K F) := by
  unfold bd_21
  exact (CS.seq 66 (CS.seq 10 (CS.upd (CE.aload_n rfl dX2_search_0 zhd) dX2_search_1 dX2_search_2 (CE.iconst kI_1 dX2_search_5 zhd) (Or.inl ⟨rfl, dX2_search_6⟩) fs_X2_29 fp_X2_29 dX2_search_7 zhd)
  (CS.seq 20 (CS.put (CE.aload_n rfl dX2_search_10 zhd) (CX.pure (CE.mmin (by decide) (CE.iload_n rfl dX2_search_11 zhd) (CE.bipush kB_6 dX2_search_12 zhd) mm_X2_33 dX2_search_14 zhd)) fp_X2_39 rfl dX2_search_17 zhd)
  (CS.seq 28 (CS.put (CE.aload_n rfl dX2_search_20 zhd) (CX.pure (CE.getI (CE.aload_n rfl dX2_search_21 zhd) fs_X2_42 dX2_search_22 zhd)) fp_X2_45 rfl dX2_search_25 zhd)
  (CS.seq 33 (CS.put (CE.aload_n rfl dX2_search_28 zhd) (CX.pure (CE.iconst kI_m1 dX2_search_29 zhd)) fp_X2_48 rfl dX2_search_30 zhd)
  (CS.seq 59 (CS.scope (CS.seq 36 (CS.decI (CX.pure (CE.iconst kI_0 dX2_search_33 zhd)) (by decide) dX2_search_34 zhd)
  (CS.whl (T := 45) (F := 59) (p1 := 56) (CD.pure (CC.icmp_lt_F (T := 45) (F := 59) (CE.iload dX2_search_36 zhd) (CE.getI (CE.aload_n rfl dX2_search_38 zhd) fs_X2_45 dX2_search_39 zhd) dX2_search_42 rfl rfl))
  (CS.seq 53 (CS.callV (CA.ref (CE.aload_n rfl dX2_search_45 zhd) (CA.int (CE.iload dX2_search_46 zhd) (CA.ref (CE.aload_n rfl dX2_search_48 zhd) (CA.ref (CE.aload_n rfl dX2_search_49 zhd) CA.nil)))) zi_22 cv_X2_51 (fun _ => rfl) dX2_search_50 zhd)
  (CS.inc kI_1 (by decide) dX2_search_53 zhd)) dX2_search_56 rfl zhd)))
  (CS.callV (CA.ref (CE.aload_n rfl dX2_search_59 zhd) (CA.int (CE.iconst kI_0 dX2_search_60 zhd) (CA.int (CE.iconst kI_0 dX2_search_61 zhd) (CA.ref (CE.aload_n rfl dX2_search_62 zhd) CA.nil)))) zi_23 cv_X2_55 (fun _ => rfl) dX2_search_63 zhd))))))
  (CS.retV dX2_search_66))
theorem dX2_prepare_0 : decode cX2_prepare 0 = .ok (.aload_n 0, 1) := by decide +kernel
theorem dX2_prepare_1 : decode cX2_prepare 1 = .ok (.getfield 18, 3) := by decide +kernel
theorem dX2_prepare_4 : decode cX2_prepare 4 = .ok (.iload_n 1, 1) := by decide +kernel
theorem dX2_prepare_5 : decode cX2_prepare 5 = .ok (.aload_n 3, 1) := by decide +kernel
theorem dX2_prepare_6 : decode cX2_prepare 6 = .ok (.iload_n 1, 1) := by decide +kernel
theorem dX2_prepare_7 : decode cX2_prepare 7 = .ok (.aload_n 2, 1) := by decide +kernel
theorem dX2_prepare_8 : decode cX2_prepare 8 = .ok (.invokevirtual 59, 3) := by decide +kernel
theorem dX2_prepare_11 : decode cX2_prepare 11 = .ok (.iastore, 1) := by decide +kernel
theorem dX2_prepare_12 : decode cX2_prepare 12 = .ok (.aload_n 0, 1) := by decide +kernel
theorem dX2_prepare_13 : decode cX2_prepare 13 = .ok (.getfield 26, 3) := by decide +kernel
theorem dX2_prepare_16 : decode cX2_prepare 16 = .ok (.iconst 0, 1) := by decide +kernel
theorem dX2_prepare_17 : decode cX2_prepare 17 = .ok (.aaload, 1) := by decide +kernel
theorem dX2_prepare_18 : decode cX2_prepare 18 = .ok (.iload_n 1, 1) := by decide +kernel
theorem dX2_prepare_19 : decode cX2_prepare 19 = .ok (.iconst 0, 1) := by decide +kernel
theorem dX2_prepare_20 : decode cX2_prepare 20 = .ok (.iastore, 1) := by decide +kernel
theorem dX2_prepare_21 : decode cX2_prepare 21 = .ok (.iconst 0, 1) := by decide +kernel
theorem dX2_prepare_22 : decode cX2_prepare 22 = .ok (.istore 4, 2) := by decide +kernel
theorem dX2_prepare_24 : decode cX2_prepare 24 = .ok (.iload 4, 2) := by decide +kernel
theorem dX2_prepare_26 : decode cX2_prepare 26 = .ok (.bipush 8, 2) := by decide +kernel
theorem dX2_prepare_28 : decode cX2_prepare 28 = .ok (.if_icmp .ge 67, 3) := by decide +kernel
theorem dX2_prepare_31 : decode cX2_prepare 31 = .ok (.aload_n 0, 1) := by decide +kernel
theorem dX2_prepare_32 : decode cX2_prepare 32 = .ok (.getfield 23, 3) := by decide +kernel
theorem dX2_prepare_35 : decode cX2_prepare 35 = .ok (.iload 4, 2) := by decide +kernel
theorem dX2_prepare_37 : decode cX2_prepare 37 = .ok (.aaload, 1) := by decide +kernel
theorem dX2_prepare_38 : decode cX2_prepare 38 = .ok (.iload_n 1, 1) := by decide +kernel
theorem dX2_prepare_39 : decode cX2_prepare 39 = .ok (.aload_n 3, 1) := by decide +kernel
theorem dX2_prepare_40 : decode cX2_prepare 40 = .ok (.iload_n 1, 1) := by decide +kernel
theorem dX2_prepare_41 : decode cX2_prepare 41 = .ok (.iload 4, 2) := by decide +kernel
theorem dX2_prepare_43 : decode cX2_prepare 43 = .ok (.invokevirtual 63, 3) := by decide +kernel
theorem dX2_prepare_46 : decode cX2_prepare 46 = .ok (.iastore, 1) := by decide +kernel
theorem dX2_prepare_47 : decode cX2_prepare 47 = .ok (.iload 4, 2) := by decide +kernel
theorem dX2_prepare_49 : decode cX2_prepare 49 = .ok (.aload_n 0, 1) := by decide +kernel
theorem dX2_prepare_50 : decode cX2_prepare 50 = .ok (.getfield 39, 3) := by decide +kernel
theorem dX2_prepare_53 : decode cX2_prepare 53 = .ok (.if_icmp .lt 36, 3) := by decide +kernel
theorem dX2_prepare_56 : decode cX2_prepare 56 = .ok (.aload_n 0, 1) := by decide +kernel
theorem dX2_prepare_57 : decode cX2_prepare 57 = .ok (.getfield 26, 3) := by decide +kernel
theorem dX2_prepare_60 : decode cX2_prepare 60 = .ok (.iconst 0, 1) := by decide +kernel
theorem dX2_prepare_61 : decode cX2_prepare 61 = .ok (.aaload, 1) := by decide +kernel
theorem dX2_prepare_62 : decode cX2_prepare 62 = .ok (.iload_n 1, 1) := by decide +kernel
theorem dX2_prepare_63 : decode cX2_prepare 63 = .ok (.dup2, 1) := by decide +kernel
theorem dX2_prepare_64 : decode cX2_prepare 64 = .ok (.iaload, 1) := by decide +kernel
theorem dX2_prepare_65 : decode cX2_prepare 65 = .ok (.aload_n 0, 1) := by decide +kernel
theorem dX2_prepare_66 : decode cX2_prepare 66 = .ok (.getfield 23, 3) := by decide +kernel
theorem dX2_prepare_69 : decode cX2_prepare 69 = .ok (.iload 4, 2) := by decide +kernel
theorem dX2_prepare_71 : decode cX2_prepare 71 = .ok (.aaload, 1) := by decide +kernel
theorem dX2_prepare_72 : decode cX2_prepare 72 = .ok (.iload_n 1, 1) := by decide +kernel
theorem dX2_prepare_73 : decode cX2_prepare 73 = .ok (.iaload, 1) := by decide +kernel
theorem dX2_prepare_74 : decode cX2_prepare 74 = .ok (.aload_n 2, 1) := by decide +kernel
theorem dX2_prepare_75 : decode cX2_prepare 75 = .ok (.getfield 66, 3) := by decide +kernel
theorem dX2_prepare_78 : decode cX2_prepare 78 = .ok (.aload_n 2, 1) := by decide +kernel
theorem dX2_prepare_79 : decode cX2_prepare 79 = .ok (.getfield 71, 3) := by decide +kernel
theorem dX2_prepare_82 : decode cX2_prepare 82 = .ok (.iload 4, 2) := by decide +kernel
theorem dX2_prepare_84 : decode cX2_prepare 84 = .ok (.iaload, 1) := by decide +kernel
theorem dX2_prepare_85 : decode cX2_prepare 85 = .ok (.iaload, 1) := by decide +kernel
theorem dX2_prepare_86 : decode cX2_prepare 86 = .ok (.imul, 1) := by decide +kernel
theorem dX2_prepare_87 : decode cX2_prepare 87 = .ok (.iadd, 1) := by decide +kernel
theorem dX2_prepare_88 : decode cX2_prepare 88 = .ok (.iastore, 1) := by decide +kernel
theorem dX2_prepare_89 : decode cX2_prepare 89 = .ok (.iinc 4 1, 3) := by decide +kernel
theorem dX2_prepare_92 : decode cX2_prepare 92 = .ok (.goto (-68), 3) := by decide +kernel
theorem dX2_prepare_95 : decode cX2_prepare 95 = .ok (.return_, 1) := by decide +kernel
theorem cd_22 (G : ZG) (d : Nat) (K : ZKt) (F : ZFt) (hT : zt5 G.2.2.2) : CS G RX2 cX2_prepare 5 d K (none) [] (fun _ => []) 0 (bd_22 G.2.2.2 K F) := by
  unfold bd_22
  exact (CS.seq 95 (CS.seq 12 (CS.st (CE.getR (CE.aload_n rfl dX2_prepare_0 zhd) fs_X2_18 dX2_prepare_1 zhd) (CX.pure (CE.iload_n rfl dX2_prepare_4 zhd)) (CX.pure (CE.callV (by decide) (CA.ref (CE.aload_n rfl dX2_prepare_5 zhd) (CA.int (CE.iload_n rfl dX2_prepare_6 zhd) (CA.ref (CE.aload_n rfl dX2_prepare_7 zhd) CA.nil))) zi_4 cv_X2_59 (fun _ => rfl) dX2_prepare_8 zhd)) (Or.inl ⟨rfl, dX2_prepare_11⟩) zhd)
  (CS.seq 21 (CS.st (CE.aldR (CE.getR (CE.aload_n rfl dX2_prepare_12 zhd) fs_X2_26 dX2_prepare_13 zhd) (CE.iconst kI_0 dX2_prepare_16 zhd) dX2_prepare_17 zhd) (CX.pure (CE.iload_n rfl dX2_prepare_18 zhd)) (CX.pure (CE.iconst kI_0 dX2_prepare_19 zhd)) (Or.inl ⟨rfl, dX2_prepare_20⟩) zhd)
  (CS.scope (CS.seq 24 (CS.decI (CX.pure (CE.iconst kI_0 dX2_prepare_21 zhd)) (by decide) dX2_prepare_22 zhd)
  (CS.whl (T := 31) (F := 95) (p1 := 92) (CD.pure (CC.icmp_lt_F (T := 31) (F := 95) (CE.iload dX2_prepare_24 zhd) (CE.bipush kB_8 dX2_prepare_26 zhd) dX2_prepare_28 rfl rfl))
  (CS.seq 89 (CS.seq 47 (CS.st (CE.aldR (CE.getR (CE.aload_n rfl dX2_prepare_31 zhd) fs_X2_23 dX2_prepare_32 zhd) (CE.iload dX2_prepare_35 zhd) dX2_prepare_37 zhd) (CX.pure (CE.iload_n rfl dX2_prepare_38 zhd)) (CX.pure (CE.callV (by decide) (CA.ref (CE.aload_n rfl dX2_prepare_39 zhd) (CA.int (CE.iload_n rfl dX2_prepare_40 zhd) (CA.int (CE.iload dX2_prepare_41 zhd) CA.nil))) zi_5 cv_X2_63 (fun _ => rfl) dX2_prepare_43 zhd)) (Or.inl ⟨rfl, dX2_prepare_46⟩) zhd)
  (CS.if1 (T := 56) (F := 89) (CD.pure (CC.icmp_ge_F (T := 56) (F := 89) (CE.iload dX2_prepare_47 zhd) (CE.getI (CE.aload_n rfl dX2_prepare_49 zhd) fs_X2_39 dX2_prepare_50 zhd) dX2_prepare_53 rfl rfl)) (CS.stU (CE.aldR (CE.getR (CE.aload_n rfl dX2_prepare_56 zhd) fs_X2_26 dX2_prepare_57 zhd) (CE.iconst kI_0 dX2_prepare_60 zhd) dX2_prepare_61 zhd) (CE.iload_n rfl dX2_prepare_62 zhd) dX2_prepare_63 dX2_prepare_64 (CE.imul (CE.aldI (CE.aldR (CE.getR (CE.aload_n rfl dX2_prepare_65 zhd) fs_X2_23 dX2_prepare_66 zhd) (CE.iload dX2_prepare_69 zhd) dX2_prepare_71 zhd) (CE.iload_n rfl dX2_prepare_72 zhd) (Or.inl ⟨rfl, dX2_prepare_73⟩) zhd) (CE.aldI (CE.getR (CE.aload_n rfl dX2_prepare_74 zhd) fs_X2_66 dX2_prepare_75 zhd) (CE.aldI (CE.getR (CE.aload_n rfl dX2_prepare_78 zhd) fs_X2_71 dX2_prepare_79 zhd) (CE.iload dX2_prepare_82 zhd) (Or.inl ⟨rfl, dX2_prepare_84⟩) zhd) (Or.inl ⟨rfl, dX2_prepare_85⟩) zhd) dX2_prepare_86 zhd) (Or.inl ⟨rfl, dX2_prepare_87⟩) dX2_prepare_88 zhd) zhd))
  (CS.inc kI_1 (by decide) dX2_prepare_89 zhd)) dX2_prepare_92 rfl zhd)))))
  (CS.retV dX2_prepare_95))
theorem dX2_choose_0 : decode cX2_choose 0 = .ok (.iload_n 1, 1) := by decide +kernel
theorem dX2_choose_1 : decode cX2_choose 1 = .ok (.aload_n 0, 1) := by decide +kernel
theorem dX2_choose_2 : decode cX2_choose 2 = .ok (.getfield 39, 3) := by decide +kernel
theorem dX2_choose_5 : decode cX2_choose 5 = .ok (.if_icmp .gt 11, 3) := by decide +kernel
theorem dX2_choose_8 : decode cX2_choose 8 = .ok (.aload_n 0, 1) := by decide +kernel
theorem dX2_choose_9 : decode cX2_choose 9 = .ok (.iload_n 1, 1) := by decide +kernel
theorem dX2_choose_10 : decode cX2_choose 10 = .ok (.invokevirtual 74, 3) := by decide +kernel
theorem dX2_choose_13 : decode cX2_choose 13 = .ok (.ifCond .ne 4, 3) := by decide +kernel
theorem dX2_choose_16 : decode cX2_choose 16 = .ok (.return_, 1) := by decide +kernel
theorem dX2_choose_17 : decode cX2_choose 17 = .ok (.aload_n 0, 1) := by decide +kernel
theorem dX2_choose_18 : decode cX2_choose 18 = .ok (.getfield 48, 3) := by decide +kernel
theorem dX2_choose_21 : decode cX2_choose 21 = .ok (.iconst (-1), 1) := by decide +kernel
theorem dX2_choose_22 : decode cX2_choose 22 = .ok (.if_icmp .eq 12, 3) := by decide +kernel
theorem dX2_choose_25 : decode cX2_choose 25 = .ok (.iload_n 2, 1) := by decide +kernel
theorem dX2_choose_26 : decode cX2_choose 26 = .ok (.aload_n 0, 1) := by decide +kernel
theorem dX2_choose_27 : decode cX2_choose 27 = .ok (.getfield 48, 3) := by decide +kernel
theorem dX2_choose_30 : decode cX2_choose 30 = .ok (.if_icmp .lt 4, 3) := by decide +kernel
theorem dX2_choose_33 : decode cX2_choose 33 = .ok (.return_, 1) := by decide +kernel
theorem dX2_choose_34 : decode cX2_choose 34 = .ok (.iload_n 1, 1) := by decide +kernel
theorem dX2_choose_35 : decode cX2_choose 35 = .ok (.aload_n 0, 1) := by decide +kernel
theorem dX2_choose_36 : decode cX2_choose 36 = .ok (.getfield 39, 3) := by decide +kernel
theorem dX2_choose_39 : decode cX2_choose 39 = .ok (.if_icmp .ne 26, 3) := by decide +kernel
theorem dX2_choose_42 : decode cX2_choose 42 = .ok (.aload_n 0, 1) := by decide +kernel
theorem dX2_choose_43 : decode cX2_choose 43 = .ok (.iload_n 2, 1) := by decide +kernel
theorem dX2_choose_44 : decode cX2_choose 44 = .ok (.putfield 48, 3) := by decide +kernel
theorem dX2_choose_47 : decode cX2_choose 47 = .ok (.aload_n 0, 1) := by decide +kernel
theorem dX2_choose_48 : decode cX2_choose 48 = .ok (.getfield 15, 3) := by decide +kernel
theorem dX2_choose_51 : decode cX2_choose 51 = .ok (.iconst 0, 1) := by decide +kernel
theorem dX2_choose_52 : decode cX2_choose 52 = .ok (.aload_n 0, 1) := by decide +kernel
theorem dX2_choose_53 : decode cX2_choose 53 = .ok (.getfield 9, 3) := by decide +kernel
theorem dX2_choose_56 : decode cX2_choose 56 = .ok (.iconst 0, 1) := by decide +kernel
theorem dX2_choose_57 : decode cX2_choose 57 = .ok (.aload_n 0, 1) := by decide +kernel
theorem dX2_choose_58 : decode cX2_choose 58 = .ok (.getfield 39, 3) := by decide +kernel
theorem dX2_choose_61 : decode cX2_choose 61 = .ok (.invokestatic 78, 3) := by decide +kernel
theorem dX2_choose_64 : decode cX2_choose 64 = .ok (.return_, 1) := by decide +kernel
theorem dX2_choose_65 : decode cX2_choose 65 = .ok (.iconst 0, 1) := by decide +kernel
theorem dX2_choose_66 : decode cX2_choose 66 = .ok (.istore 4, 2) := by decide +kernel
theorem dX2_choose_68 : decode cX2_choose 68 = .ok (.iload 4, 2) := by decide +kernel
theorem dX2_choose_70 : decode cX2_choose 70 = .ok (.iconst 4, 1) := by decide +kernel
theorem dX2_choose_71 : decode cX2_choose 71 = .ok (.if_icmp .ge 90, 3) := by decide +kernel
theorem dX2_choose_74 : decode cX2_choose 74 = .ok (.aload_n 0, 1) := by decide +kernel
theorem dX2_choose_75 : decode cX2_choose 75 = .ok (.getfield 15, 3) := by decide +kernel
theorem dX2_choose_78 : decode cX2_choose 78 = .ok (.iload_n 1, 1) := by decide +kernel
theorem dX2_choose_79 : decode cX2_choose 79 = .ok (.iload 4, 2) := by decide +kernel
theorem dX2_choose_81 : decode cX2_choose 81 = .ok (.iastore, 1) := by decide +kernel
theorem dX2_choose_82 : decode cX2_choose 82 = .ok (.iconst 0, 1) := by decide +kernel
theorem dX2_choose_83 : decode cX2_choose 83 = .ok (.istore 5, 2) := by decide +kernel
theorem dX2_choose_85 : decode cX2_choose 85 = .ok (.iload 5, 2) := by decide +kernel
theorem dX2_choose_87 : decode cX2_choose 87 = .ok (.aload_n 0, 1) := by decide +kernel
theorem dX2_choose_88 : decode cX2_choose 88 = .ok (.getfield 45, 3) := by decide +kernel
theorem dX2_choose_91 : decode cX2_choose 91 = .ok (.if_icmp .ge 47, 3) := by decide +kernel
theorem dX2_choose_94 : decode cX2_choose 94 = .ok (.aload_n 0, 1) := by decide +kernel
theorem dX2_choose_95 : decode cX2_choose 95 = .ok (.getfield 26, 3) := by decide +kernel
theorem dX2_choose_98 : decode cX2_choose 98 = .ok (.iload_n 1, 1) := by decide +kernel
theorem dX2_choose_99 : decode cX2_choose 99 = .ok (.iconst 1, 1) := by decide +kernel
theorem dX2_choose_100 : decode cX2_choose 100 = .ok (.iadd, 1) := by decide +kernel
theorem dX2_choose_101 : decode cX2_choose 101 = .ok (.aaload, 1) := by decide +kernel
theorem dX2_choose_102 : decode cX2_choose 102 = .ok (.iload 5, 2) := by decide +kernel
theorem dX2_choose_104 : decode cX2_choose 104 = .ok (.aload_n 0, 1) := by decide +kernel
theorem dX2_choose_105 : decode cX2_choose 105 = .ok (.getfield 26, 3) := by decide +kernel
theorem dX2_choose_108 : decode cX2_choose 108 = .ok (.iload_n 1, 1) := by decide +kernel
theorem dX2_choose_109 : decode cX2_choose 109 = .ok (.aaload, 1) := by decide +kernel
theorem dX2_choose_110 : decode cX2_choose 110 = .ok (.iload 5, 2) := by decide +kernel
theorem dX2_choose_112 : decode cX2_choose 112 = .ok (.iaload, 1) := by decide +kernel
theorem dX2_choose_113 : decode cX2_choose 113 = .ok (.aload_n 0, 1) := by decide +kernel
theorem dX2_choose_114 : decode cX2_choose 114 = .ok (.getfield 23, 3) := by decide +kernel
theorem dX2_choose_117 : decode cX2_choose 117 = .ok (.iload_n 1, 1) := by decide +kernel
theorem dX2_choose_118 : decode cX2_choose 118 = .ok (.aaload, 1) := by decide +kernel
theorem dX2_choose_119 : decode cX2_choose 119 = .ok (.iload 5, 2) := by decide +kernel
theorem dX2_choose_121 : decode cX2_choose 121 = .ok (.iaload, 1) := by decide +kernel
theorem dX2_choose_122 : decode cX2_choose 122 = .ok (.aload_n 3, 1) := by decide +kernel
theorem dX2_choose_123 : decode cX2_choose 123 = .ok (.getfield 66, 3) := by decide +kernel
theorem dX2_choose_126 : decode cX2_choose 126 = .ok (.iload 4, 2) := by decide +kernel
theorem dX2_choose_128 : decode cX2_choose 128 = .ok (.iaload, 1) := by decide +kernel
theorem dX2_choose_129 : decode cX2_choose 129 = .ok (.imul, 1) := by decide +kernel
theorem dX2_choose_130 : decode cX2_choose 130 = .ok (.iadd, 1) := by decide +kernel
theorem dX2_choose_131 : decode cX2_choose 131 = .ok (.iastore, 1) := by decide +kernel
theorem dX2_choose_132 : decode cX2_choose 132 = .ok (.iinc 5 1, 3) := by decide +kernel
theorem dX2_choose_135 : decode cX2_choose 135 = .ok (.goto (-50), 3) := by decide +kernel
theorem dX2_choose_138 : decode cX2_choose 138 = .ok (.aload_n 0, 1) := by decide +kernel
theorem dX2_choose_139 : decode cX2_choose 139 = .ok (.iload_n 1, 1) := by decide +kernel
theorem dX2_choose_140 : decode cX2_choose 140 = .ok (.iconst 1, 1) := by decide +kernel
theorem dX2_choose_141 : decode cX2_choose 141 = .ok (.iadd, 1) := by decide +kernel
theorem dX2_choose_142 : decode cX2_choose 142 = .ok (.iload_n 2, 1) := by decide +kernel
theorem dX2_choose_143 : decode cX2_choose 143 = .ok (.aload_n 3, 1) := by decide +kernel
theorem dX2_choose_144 : decode cX2_choose 144 = .ok (.iload_n 1, 1) := by decide +kernel
theorem dX2_choose_145 : decode cX2_choose 145 = .ok (.iload 4, 2) := by decide +kernel
theorem dX2_choose_147 : decode cX2_choose 147 = .ok (.invokevirtual 84, 3) := by decide +kernel
theorem dX2_choose_150 : decode cX2_choose 150 = .ok (.iadd, 1) := by decide +kernel
theorem dX2_choose_151 : decode cX2_choose 151 = .ok (.aload_n 3, 1) := by decide +kernel
theorem dX2_choose_152 : decode cX2_choose 152 = .ok (.invokevirtual 55, 3) := by decide +kernel
theorem dX2_choose_155 : decode cX2_choose 155 = .ok (.iinc 4 1, 3) := by decide +kernel
theorem dX2_choose_158 : decode cX2_choose 158 = .ok (.goto (-90), 3) := by decide +kernel
theorem dX2_choose_161 : decode cX2_choose 161 = .ok (.return_, 1) := by decide +kernel
theorem cd_23 (G : ZG) (d : Nat) (K : ZKt) (F : ZFt) (hT : zt5 G.2.2.2) : CS G RX2 cX2_choose 6 d K (none) [] (fun _ => []) 0 (bd_23 G.2.2.2 K F) := by
  unfold bd_23
  exact (CS.seq 161 (CS.seq 17 (CS.if1 (T := 16) (F := 17) (CD.pure (CC.or (CC.icmp_gt_T (T := 16) (F := 8) (CE.iload_n rfl dX2_choose_0 zhd) (CE.getI (CE.aload_n rfl dX2_choose_1 zhd) fs_X2_39 dX2_choose_2 zhd) dX2_choose_5 rfl rfl) (CC.not (CC.if_ne_T (T := 17) (F := 16) (CE.callV (by decide) (CA.ref (CE.aload_n rfl dX2_choose_8 zhd) (CA.int (CE.iload_n rfl dX2_choose_9 zhd) CA.nil)) zi_24 cv_X2_74 (fun _ => rfl) dX2_choose_10 zhd) dX2_choose_13 rfl rfl)))) (CS.retV dX2_choose_16) zhd)
  (CS.seq 34 (CS.if1 (T := 33) (F := 34) (CD.pure (CC.and (CC.icmp_ne_F (T := 25) (F := 34) (CE.getI (CE.aload_n rfl dX2_choose_17 zhd) fs_X2_48 dX2_choose_18 zhd) (CE.iconst kI_m1 dX2_choose_21 zhd) dX2_choose_22 rfl rfl) (CC.icmp_ge_F (T := 33) (F := 34) (CE.iload_n rfl dX2_choose_25 zhd) (CE.getI (CE.aload_n rfl dX2_choose_26 zhd) fs_X2_48 dX2_choose_27 zhd) dX2_choose_30 rfl rfl))) (CS.retV dX2_choose_33) zhd)
  (CS.seq 65 (CS.if1 (T := 42) (F := 65) (CD.pure (CC.icmp_eq_F (T := 42) (F := 65) (CE.iload_n rfl dX2_choose_34 zhd) (CE.getI (CE.aload_n rfl dX2_choose_35 zhd) fs_X2_39 dX2_choose_36 zhd) dX2_choose_39 rfl rfl)) (CS.seq 47 (CS.put (CE.aload_n rfl dX2_choose_42 zhd) (CX.pure (CE.iload_n rfl dX2_choose_43 zhd)) fp_X2_48 rfl dX2_choose_44 zhd)
  (CS.seq 64 (CS.cpy (CE.getR (CE.aload_n rfl dX2_choose_47 zhd) fs_X2_15 dX2_choose_48 zhd) dX2_choose_51 (CE.getR (CE.aload_n rfl dX2_choose_52 zhd) fs_X2_9 dX2_choose_53 zhd) dX2_choose_56 (CE.getI (CE.aload_n rfl dX2_choose_57 zhd) fs_X2_39 dX2_choose_58 zhd) sy_X2_78 dX2_choose_61 zhd)
  (CS.retV dX2_choose_64))) zhd)
  (CS.scope (CS.seq 68 (CS.decI (CX.pure (CE.iconst kI_0 dX2_choose_65 zhd)) (by decide) dX2_choose_66 zhd)
  (CS.whl (T := 74) (F := 161) (p1 := 158) (CD.pure (CC.icmp_lt_F (T := 74) (F := 161) (CE.iload dX2_choose_68 zhd) (CE.iconst kI_4 dX2_choose_70 zhd) dX2_choose_71 rfl rfl))
  (CS.seq 155 (CS.seq 82 (CS.st (CE.getR (CE.aload_n rfl dX2_choose_74 zhd) fs_X2_15 dX2_choose_75 zhd) (CX.pure (CE.iload_n rfl dX2_choose_78 zhd)) (CX.pure (CE.iload dX2_choose_79 zhd)) (Or.inl ⟨rfl, dX2_choose_81⟩) zhd)
  (CS.seq 138 (CS.scope (CS.seq 85 (CS.decI (CX.pure (CE.iconst kI_0 dX2_choose_82 zhd)) (by decide) dX2_choose_83 zhd)
  (CS.whl (T := 94) (F := 138) (p1 := 135) (CD.pure (CC.icmp_lt_F (T := 94) (F := 138) (CE.iload dX2_choose_85 zhd) (CE.getI (CE.aload_n rfl dX2_choose_87 zhd) fs_X2_45 dX2_choose_88 zhd) dX2_choose_91 rfl rfl))
  (CS.seq 132 (CS.st (CE.aldR (CE.getR (CE.aload_n rfl dX2_choose_94 zhd) fs_X2_26 dX2_choose_95 zhd) (CE.iadd (CE.iload_n rfl dX2_choose_98 zhd) (CE.iconst kI_1 dX2_choose_99 zhd) dX2_choose_100 zhd) dX2_choose_101 zhd) (CX.pure (CE.iload dX2_choose_102 zhd)) (CX.pure (CE.iadd (CE.aldI (CE.aldR (CE.getR (CE.aload_n rfl dX2_choose_104 zhd) fs_X2_26 dX2_choose_105 zhd) (CE.iload_n rfl dX2_choose_108 zhd) dX2_choose_109 zhd) (CE.iload dX2_choose_110 zhd) (Or.inl ⟨rfl, dX2_choose_112⟩) zhd) (CE.imul (CE.aldI (CE.aldR (CE.getR (CE.aload_n rfl dX2_choose_113 zhd) fs_X2_23 dX2_choose_114 zhd) (CE.iload_n rfl dX2_choose_117 zhd) dX2_choose_118 zhd) (CE.iload dX2_choose_119 zhd) (Or.inl ⟨rfl, dX2_choose_121⟩) zhd) (CE.aldI (CE.getR (CE.aload_n rfl dX2_choose_122 zhd) fs_X2_66 dX2_choose_123 zhd) (CE.iload dX2_choose_126 zhd) (Or.inl ⟨rfl, dX2_choose_128⟩) zhd) dX2_choose_129 zhd) dX2_choose_130 zhd)) (Or.inl ⟨rfl, dX2_choose_131⟩) zhd)
  (CS.inc kI_1 (by decide) dX2_choose_132 zhd)) dX2_choose_135 rfl zhd)))
  (CS.callV (CA.ref (CE.aload_n rfl dX2_choose_138 zhd) (CA.int (CE.iadd (CE.iload_n rfl dX2_choose_139 zhd) (CE.iconst kI_1 dX2_choose_140 zhd) dX2_choose_141 zhd) (CA.int (CE.iadd (CE.iload_n rfl dX2_choose_142 zhd) (CE.callV (by decide) (CA.ref (CE.aload_n rfl dX2_choose_143 zhd) (CA.int (CE.iload_n rfl dX2_choose_144 zhd) (CA.int (CE.iload dX2_choose_145 zhd) CA.nil))) zi_15 cv_X2_84 (fun _ => rfl) dX2_choose_147 zhd) dX2_choose_150 zhd) (CA.ref (CE.aload_n rfl dX2_choose_151 zhd) CA.nil)))) zi_23 cv_X2_55 (fun _ => rfl) dX2_choose_152 zhd)))
  (CS.inc kI_1 (by decide) dX2_choose_155 zhd)) dX2_choose_158 rfl zhd))))))
  (CS.retV dX2_choose_161))
theorem dX2_hasRoom_0 : decode cX2_hasRoom 0 = .ok (.iconst 0, 1) := by decide +kernel
theorem dX2_hasRoom_1 : decode cX2_hasRoom 1 = .ok (.istore_n 2, 1) := by decide +kernel
theorem dX2_hasRoom_2 : decode cX2_hasRoom 2 = .ok (.iload_n 2, 1) := by decide +kernel
theorem dX2_hasRoom_3 : decode cX2_hasRoom 3 = .ok (.aload_n 0, 1) := by decide +kernel
theorem dX2_hasRoom_4 : decode cX2_hasRoom 4 = .ok (.getfield 45, 3) := by decide +kernel
theorem dX2_hasRoom_7 : decode cX2_hasRoom 7 = .ok (.if_icmp .ge 28, 3) := by decide +kernel
theorem dX2_hasRoom_10 : decode cX2_hasRoom 10 = .ok (.aload_n 0, 1) := by decide +kernel
theorem dX2_hasRoom_11 : decode cX2_hasRoom 11 = .ok (.getfield 26, 3) := by decide +kernel
theorem dX2_hasRoom_14 : decode cX2_hasRoom 14 = .ok (.iload_n 1, 1) := by decide +kernel
theorem dX2_hasRoom_15 : decode cX2_hasRoom 15 = .ok (.aaload, 1) := by decide +kernel
theorem dX2_hasRoom_16 : decode cX2_hasRoom 16 = .ok (.iload_n 2, 1) := by decide +kernel
theorem dX2_hasRoom_17 : decode cX2_hasRoom 17 = .ok (.iaload, 1) := by decide +kernel
theorem dX2_hasRoom_18 : decode cX2_hasRoom 18 = .ok (.aload_n 0, 1) := by decide +kernel
theorem dX2_hasRoom_19 : decode cX2_hasRoom 19 = .ok (.getfield 18, 3) := by decide +kernel
theorem dX2_hasRoom_22 : decode cX2_hasRoom 22 = .ok (.iload_n 2, 1) := by decide +kernel
theorem dX2_hasRoom_23 : decode cX2_hasRoom 23 = .ok (.iaload, 1) := by decide +kernel
theorem dX2_hasRoom_24 : decode cX2_hasRoom 24 = .ok (.if_icmp .le 5, 3) := by decide +kernel
theorem dX2_hasRoom_27 : decode cX2_hasRoom 27 = .ok (.iconst 0, 1) := by decide +kernel
theorem dX2_hasRoom_28 : decode cX2_hasRoom 28 = .ok (.ireturn, 1) := by decide +kernel
theorem dX2_hasRoom_29 : decode cX2_hasRoom 29 = .ok (.iinc 2 1, 3) := by decide +kernel
theorem dX2_hasRoom_32 : decode cX2_hasRoom 32 = .ok (.goto (-30), 3) := by decide +kernel
theorem dX2_hasRoom_35 : decode cX2_hasRoom 35 = .ok (.iconst 1, 1) := by decide +kernel
theorem dX2_hasRoom_36 : decode cX2_hasRoom 36 = .ok (.ireturn, 1) := by decide +kernel
theorem cd_24 (G : ZG) (d : Nat) (K : ZKt) (F : ZFt) (hT : zt5 G.2.2.2) : CS G RX2 cX2_hasRoom 3 d K (some .boolean) [] (fun _ => []) 0 (bd_24 G.2.2.2 K F) := by
  unfold bd_24
  exact (CS.seq 35 (CS.scope (CS.seq 2 (CS.decI_n (CX.pure (CE.iconst kI_0 dX2_hasRoom_0 zhd)) rfl (by decide) dX2_hasRoom_1 zhd)
  (CS.whl (T := 10) (F := 35) (p1 := 32) (CD.pure (CC.icmp_lt_F (T := 10) (F := 35) (CE.iload_n rfl dX2_hasRoom_2 zhd) (CE.getI (CE.aload_n rfl dX2_hasRoom_3 zhd) fs_X2_45 dX2_hasRoom_4 zhd) dX2_hasRoom_7 rfl rfl))
  (CS.seq 29 (CS.if1 (T := 27) (F := 29) (CD.pure (CC.icmp_gt_F (T := 27) (F := 29) (CE.aldI (CE.aldR (CE.getR (CE.aload_n rfl dX2_hasRoom_10 zhd) fs_X2_26 dX2_hasRoom_11 zhd) (CE.iload_n rfl dX2_hasRoom_14 zhd) dX2_hasRoom_15 zhd) (CE.iload_n rfl dX2_hasRoom_16 zhd) (Or.inl ⟨rfl, dX2_hasRoom_17⟩) zhd) (CE.aldI (CE.getR (CE.aload_n rfl dX2_hasRoom_18 zhd) fs_X2_18 dX2_hasRoom_19 zhd) (CE.iload_n rfl dX2_hasRoom_22 zhd) (Or.inl ⟨rfl, dX2_hasRoom_23⟩) zhd) dX2_hasRoom_24 rfl rfl)) (CS.retZ (CX.pure (CE.iconst kI_0 dX2_hasRoom_27 zhd)) dX2_hasRoom_28) zhd)
  (CS.inc kI_1 (by decide) dX2_hasRoom_29 zhd)) dX2_hasRoom_32 rfl zhd)))
  (CS.retZ (CX.pure (CE.iconst kI_1 dX2_hasRoom_35 zhd)) dX2_hasRoom_36))
theorem dX2_gradeFor_0 : decode cX2_gradeFor 0 = .ok (.aload_n 0, 1) := by decide +kernel
theorem dX2_gradeFor_1 : decode cX2_gradeFor 1 = .ok (.getfield 48, 3) := by decide +kernel
theorem dX2_gradeFor_4 : decode cX2_gradeFor 4 = .ok (.iconst (-1), 1) := by decide +kernel
theorem dX2_gradeFor_5 : decode cX2_gradeFor 5 = .ok (.if_icmp .eq 23, 3) := by decide +kernel
theorem dX2_gradeFor_8 : decode cX2_gradeFor 8 = .ok (.iload_n 1, 1) := by decide +kernel
theorem dX2_gradeFor_9 : decode cX2_gradeFor 9 = .ok (.aload_n 0, 1) := by decide +kernel
theorem dX2_gradeFor_10 : decode cX2_gradeFor 10 = .ok (.getfield 39, 3) := by decide +kernel
theorem dX2_gradeFor_13 : decode cX2_gradeFor 13 = .ok (.invokestatic 87, 3) := by decide +kernel
theorem dX2_gradeFor_16 : decode cX2_gradeFor 16 = .ok (.ifCond .eq 12, 3) := by decide +kernel
theorem dX2_gradeFor_19 : decode cX2_gradeFor 19 = .ok (.aload_n 0, 1) := by decide +kernel
theorem dX2_gradeFor_20 : decode cX2_gradeFor 20 = .ok (.getfield 9, 3) := by decide +kernel
theorem dX2_gradeFor_23 : decode cX2_gradeFor 23 = .ok (.iload_n 1, 1) := by decide +kernel
theorem dX2_gradeFor_24 : decode cX2_gradeFor 24 = .ok (.iaload, 1) := by decide +kernel
theorem dX2_gradeFor_25 : decode cX2_gradeFor 25 = .ok (.goto 4, 3) := by decide +kernel
theorem dX2_gradeFor_28 : decode cX2_gradeFor 28 = .ok (.iconst (-1), 1) := by decide +kernel
theorem dX2_gradeFor_29 : decode cX2_gradeFor 29 = .ok (.ireturn, 1) := by decide +kernel
theorem cd_25 (G : ZG) (d : Nat) (K : ZKt) (F : ZFt) (hT : zt5 G.2.2.2) : CS G RX2 cX2_gradeFor 2 d K (some .int) [] (fun _ => []) 0 (bd_25 G.2.2.2 K F) := by
  unfold bd_25
  exact (CS.retI (CX.pure (CE.tern (T := 19) (F := 28) (p1 := 25) (q := 29) (CC.and (CC.icmp_ne_F (T := 8) (F := 28) (CE.getI (CE.aload_n rfl dX2_gradeFor_0 zhd) fs_X2_48 dX2_gradeFor_1 zhd) (CE.iconst kI_m1 dX2_gradeFor_4 zhd) dX2_gradeFor_5 rfl rfl) (CC.if_ne_F (T := 19) (F := 28) (CE.callS (by decide) (CA.int (CE.iload_n rfl dX2_gradeFor_8 zhd) (CA.int (CE.getI (CE.aload_n rfl dX2_gradeFor_9 zhd) fs_X2_39 dX2_gradeFor_10 zhd) CA.nil)) zi_129 cs_X2_87 (fun _ => rfl) dX2_gradeFor_13 zhd) dX2_gradeFor_16 rfl rfl)) (CE.aldI (CE.getR (CE.aload_n rfl dX2_gradeFor_19 zhd) fs_X2_9 dX2_gradeFor_20 zhd) (CE.iload_n rfl dX2_gradeFor_23 zhd) (Or.inl ⟨rfl, dX2_gradeFor_24⟩) zhd) zex2 dX2_gradeFor_25 rfl zhd (CE.iconst kI_m1 dX2_gradeFor_28 zhd))) dX2_gradeFor_29)
theorem dX3_add_0 : decode cX3_add 0 = .ok (.aload_n 0, 1) := by decide +kernel
theorem dX3_add_1 : decode cX3_add 1 = .ok (.getfield 23, 3) := by decide +kernel
theorem dX3_add_4 : decode cX3_add 4 = .ok (.bipush 6, 2) := by decide +kernel
theorem dX3_add_6 : decode cX3_add 6 = .ok (.if_icmp .lt 6, 3) := by decide +kernel
theorem dX3_add_9 : decode cX3_add 9 = .ok (.bipush (-104), 2) := by decide +kernel
theorem dX3_add_11 : decode cX3_add 11 = .ok (.ireturn, 1) := by decide +kernel
theorem dX3_add_12 : decode cX3_add 12 = .ok (.aload_n 0, 1) := by decide +kernel
theorem dX3_add_13 : decode cX3_add 13 = .ok (.getfield 9, 3) := by decide +kernel
theorem dX3_add_16 : decode cX3_add 16 = .ok (.aload_n 0, 1) := by decide +kernel
theorem dX3_add_17 : decode cX3_add 17 = .ok (.getfield 23, 3) := by decide +kernel
theorem dX3_add_20 : decode cX3_add 20 = .ok (.iload_n 1, 1) := by decide +kernel
theorem dX3_add_21 : decode cX3_add 21 = .ok (.iastore, 1) := by decide +kernel
theorem dX3_add_22 : decode cX3_add 22 = .ok (.aload_n 0, 1) := by decide +kernel
theorem dX3_add_23 : decode cX3_add 23 = .ok (.dup, 1) := by decide +kernel
theorem dX3_add_24 : decode cX3_add 24 = .ok (.getfield 23, 3) := by decide +kernel
theorem dX3_add_27 : decode cX3_add 27 = .ok (.dup_x1, 1) := by decide +kernel
theorem dX3_add_28 : decode cX3_add 28 = .ok (.iconst 1, 1) := by decide +kernel
theorem dX3_add_29 : decode cX3_add 29 = .ok (.iadd, 1) := by decide +kernel
theorem dX3_add_30 : decode cX3_add 30 = .ok (.putfield 23, 3) := by decide +kernel
theorem dX3_add_33 : decode cX3_add 33 = .ok (.ireturn, 1) := by decide +kernel
theorem cd_26 (G : ZG) (d : Nat) (K : ZKt) (F : ZFt) (hT : zt5 G.2.2.2) : CS G RX3 cX3_add 2 d K (some .int) [] (fun _ => []) 0 (bd_26 G.2.2.2 K F) := by
  unfold bd_26
  exact (CS.seq 12 (CS.if1 (T := 9) (F := 12) (CD.pure (CC.icmp_ge_F (T := 9) (F := 12) (CE.getI (CE.aload_n rfl dX3_add_0 zhd) fs_X3_23 dX3_add_1 zhd) (CE.bipush kB_6 dX3_add_4 zhd) dX3_add_6 rfl rfl)) (CS.retI (CX.pure (CE.bipush kB_m104 dX3_add_9 zhd)) dX3_add_11) zhd)
  (CS.seq 22 (CS.st (CE.getR (CE.aload_n rfl dX3_add_12 zhd) fs_X3_9 dX3_add_13 zhd) (CX.pure (CE.getI (CE.aload_n rfl dX3_add_16 zhd) fs_X3_23 dX3_add_17 zhd)) (CX.pure (CE.iload_n rfl dX3_add_20 zhd)) (Or.inl ⟨rfl, dX3_add_21⟩) zhd)
  (CS.retI (CX.inc (CE.aload_n rfl dX3_add_22 zhd) dX3_add_23 dX3_add_24 dX3_add_27 dX3_add_28 dX3_add_29 fs_X3_23 fp_X3_23 dX3_add_30 zhd) dX3_add_33)))
theorem dX3_cheapestSet_0 : decode cX3_cheapestSet 0 = .ok (.iconst (-1), 1) := by decide +kernel
theorem dX3_cheapestSet_1 : decode cX3_cheapestSet 1 = .ok (.istore_n 1, 1) := by decide +kernel
theorem dX3_cheapestSet_2 : decode cX3_cheapestSet 2 = .ok (.iconst 0, 1) := by decide +kernel
theorem dX3_cheapestSet_3 : decode cX3_cheapestSet 3 = .ok (.istore_n 2, 1) := by decide +kernel
theorem dX3_cheapestSet_4 : decode cX3_cheapestSet 4 = .ok (.iload_n 2, 1) := by decide +kernel
theorem dX3_cheapestSet_5 : decode cX3_cheapestSet 5 = .ok (.iconst 1, 1) := by decide +kernel
theorem dX3_cheapestSet_6 : decode cX3_cheapestSet 6 = .ok (.aload_n 0, 1) := by decide +kernel
theorem dX3_cheapestSet_7 : decode cX3_cheapestSet 7 = .ok (.getfield 23, 3) := by decide +kernel
theorem dX3_cheapestSet_10 : decode cX3_cheapestSet 10 = .ok (.ishl, 1) := by decide +kernel
theorem dX3_cheapestSet_11 : decode cX3_cheapestSet 11 = .ok (.if_icmp .ge 33, 3) := by decide +kernel
theorem dX3_cheapestSet_14 : decode cX3_cheapestSet 14 = .ok (.aload_n 0, 1) := by decide +kernel
theorem dX3_cheapestSet_15 : decode cX3_cheapestSet 15 = .ok (.iload_n 2, 1) := by decide +kernel
theorem dX3_cheapestSet_16 : decode cX3_cheapestSet 16 = .ok (.invokevirtual 27, 3) := by decide +kernel
theorem dX3_cheapestSet_19 : decode cX3_cheapestSet 19 = .ok (.ifCond .eq 19, 3) := by decide +kernel
theorem dX3_cheapestSet_22 : decode cX3_cheapestSet 22 = .ok (.iload_n 1, 1) := by decide +kernel
theorem dX3_cheapestSet_23 : decode cX3_cheapestSet 23 = .ok (.iconst (-1), 1) := by decide +kernel
theorem dX3_cheapestSet_24 : decode cX3_cheapestSet 24 = .ok (.if_icmp .eq 12, 3) := by decide +kernel
theorem dX3_cheapestSet_27 : decode cX3_cheapestSet 27 = .ok (.aload_n 0, 1) := by decide +kernel
theorem dX3_cheapestSet_28 : decode cX3_cheapestSet 28 = .ok (.iload_n 2, 1) := by decide +kernel
theorem dX3_cheapestSet_29 : decode cX3_cheapestSet 29 = .ok (.iload_n 1, 1) := by decide +kernel
theorem dX3_cheapestSet_30 : decode cX3_cheapestSet 30 = .ok (.invokevirtual 31, 3) := by decide +kernel
theorem dX3_cheapestSet_33 : decode cX3_cheapestSet 33 = .ok (.ifCond .eq 5, 3) := by decide +kernel
theorem dX3_cheapestSet_36 : decode cX3_cheapestSet 36 = .ok (.iload_n 2, 1) := by decide +kernel
theorem dX3_cheapestSet_37 : decode cX3_cheapestSet 37 = .ok (.istore_n 1, 1) := by decide +kernel
theorem dX3_cheapestSet_38 : decode cX3_cheapestSet 38 = .ok (.iinc 2 1, 3) := by decide +kernel
theorem dX3_cheapestSet_41 : decode cX3_cheapestSet 41 = .ok (.goto (-37), 3) := by decide +kernel
theorem dX3_cheapestSet_44 : decode cX3_cheapestSet 44 = .ok (.iload_n 1, 1) := by decide +kernel
theorem dX3_cheapestSet_45 : decode cX3_cheapestSet 45 = .ok (.ireturn, 1) := by decide +kernel
theorem cd_27 (G : ZG) (d : Nat) (K : ZKt) (F : ZFt) (hT : zt5 G.2.2.2) : CS G RX3 cX3_cheapestSet 3 d K (some .int) [] (fun _ => []) 0 (bd_27 G.2.2.2 K F) := by
  unfold bd_27
  exact (CS.seq 2 (CS.decI_n (CX.pure (CE.iconst kI_m1 dX3_cheapestSet_0 zhd)) rfl (by decide) dX3_cheapestSet_1 zhd)
  (CS.seq 44 (CS.scope (CS.seq 4 (CS.decI_n (CX.pure (CE.iconst kI_0 dX3_cheapestSet_2 zhd)) rfl (by decide) dX3_cheapestSet_3 zhd)
  (CS.whl (T := 14) (F := 44) (p1 := 41) (CD.pure (CC.icmp_lt_F (T := 14) (F := 44) (CE.iload_n rfl dX3_cheapestSet_4 zhd) (CE.ishl (CE.iconst kI_1 dX3_cheapestSet_5 zhd) (CE.getI (CE.aload_n rfl dX3_cheapestSet_6 zhd) fs_X3_23 dX3_cheapestSet_7 zhd) dX3_cheapestSet_10 zhd) dX3_cheapestSet_11 rfl rfl))
  (CS.seq 38 (CS.if1 (T := 36) (F := 38) (CD.pure (CC.and (CC.if_ne_F (T := 22) (F := 38) (CE.callV (by decide) (CA.ref (CE.aload_n rfl dX3_cheapestSet_14 zhd) (CA.int (CE.iload_n rfl dX3_cheapestSet_15 zhd) CA.nil)) zi_30 cv_X3_27 (fun _ => rfl) dX3_cheapestSet_16 zhd) dX3_cheapestSet_19 rfl rfl) (CC.or (CC.icmp_eq_T (T := 36) (F := 27) (CE.iload_n rfl dX3_cheapestSet_22 zhd) (CE.iconst kI_m1 dX3_cheapestSet_23 zhd) dX3_cheapestSet_24 rfl rfl) (CC.if_ne_F (T := 36) (F := 38) (CE.callV (by decide) (CA.ref (CE.aload_n rfl dX3_cheapestSet_27 zhd) (CA.int (CE.iload_n rfl dX3_cheapestSet_28 zhd) (CA.int (CE.iload_n rfl dX3_cheapestSet_29 zhd) CA.nil))) zi_28 cv_X3_31 (fun _ => rfl) dX3_cheapestSet_30 zhd) dX3_cheapestSet_33 rfl rfl)))) (CS.setI_n (CX.pure (CE.iload_n rfl dX3_cheapestSet_36 zhd)) rfl (by decide) dX3_cheapestSet_37 zhd) zhd)
  (CS.inc kI_1 (by decide) dX3_cheapestSet_38 zhd)) dX3_cheapestSet_41 rfl zhd)))
  (CS.retI (CX.pure (CE.iload_n rfl dX3_cheapestSet_44 zhd)) dX3_cheapestSet_45)))
theorem dX3_isBetter_0 : decode cX3_isBetter 0 = .ok (.aload_n 0, 1) := by decide +kernel
theorem dX3_isBetter_1 : decode cX3_isBetter 1 = .ok (.iload_n 1, 1) := by decide +kernel
theorem dX3_isBetter_2 : decode cX3_isBetter 2 = .ok (.invokevirtual 35, 3) := by decide +kernel
theorem dX3_isBetter_5 : decode cX3_isBetter 5 = .ok (.aload_n 0, 1) := by decide +kernel
theorem dX3_isBetter_6 : decode cX3_isBetter 6 = .ok (.iload_n 2, 1) := by decide +kernel
theorem dX3_isBetter_7 : decode cX3_isBetter 7 = .ok (.invokevirtual 35, 3) := by decide +kernel
theorem dX3_isBetter_10 : decode cX3_isBetter 10 = .ok (.invokestatic 39, 3) := by decide +kernel
theorem dX3_isBetter_13 : decode cX3_isBetter 13 = .ok (.istore_n 3, 1) := by decide +kernel
theorem dX3_isBetter_14 : decode cX3_isBetter 14 = .ok (.iload_n 3, 1) := by decide +kernel
theorem dX3_isBetter_15 : decode cX3_isBetter 15 = .ok (.ifCond .lt 18, 3) := by decide +kernel
theorem dX3_isBetter_18 : decode cX3_isBetter 18 = .ok (.iload_n 3, 1) := by decide +kernel
theorem dX3_isBetter_19 : decode cX3_isBetter 19 = .ok (.ifCond .ne 18, 3) := by decide +kernel
theorem dX3_isBetter_22 : decode cX3_isBetter 22 = .ok (.iload_n 1, 1) := by decide +kernel
theorem dX3_isBetter_23 : decode cX3_isBetter 23 = .ok (.invokestatic 45, 3) := by decide +kernel
theorem dX3_isBetter_26 : decode cX3_isBetter 26 = .ok (.iload_n 2, 1) := by decide +kernel
theorem dX3_isBetter_27 : decode cX3_isBetter 27 = .ok (.invokestatic 45, 3) := by decide +kernel
theorem dX3_isBetter_30 : decode cX3_isBetter 30 = .ok (.if_icmp .ge 7, 3) := by decide +kernel
theorem dX3_isBetter_33 : decode cX3_isBetter 33 = .ok (.iconst 1, 1) := by decide +kernel
theorem dX3_isBetter_34 : decode cX3_isBetter 34 = .ok (.goto 4, 3) := by decide +kernel
theorem dX3_isBetter_37 : decode cX3_isBetter 37 = .ok (.iconst 0, 1) := by decide +kernel
theorem dX3_isBetter_38 : decode cX3_isBetter 38 = .ok (.ireturn, 1) := by decide +kernel
theorem cd_28 (G : ZG) (d : Nat) (K : ZKt) (F : ZFt) (hT : zt5 G.2.2.2) : CS G RX3 cX3_isBetter 4 d K (some .boolean) [] (fun _ => []) 0 (bd_28 G.2.2.2 K F) := by
  unfold bd_28
  exact (CS.seq 14 (CS.decI_n (CX.pure (CE.callS (by decide) (CA.int (CE.callV (by decide) (CA.ref (CE.aload_n rfl dX3_isBetter_0 zhd) (CA.int (CE.iload_n rfl dX3_isBetter_1 zhd) CA.nil)) zi_29 cv_X3_35 (fun _ => rfl) dX3_isBetter_2 zhd) (CA.int (CE.callV (by decide) (CA.ref (CE.aload_n rfl dX3_isBetter_5 zhd) (CA.int (CE.iload_n rfl dX3_isBetter_6 zhd) CA.nil)) zi_29 cv_X3_35 (fun _ => rfl) dX3_isBetter_7 zhd) CA.nil)) zi_216 cs_X3_39 (fun _ => rfl) dX3_isBetter_10 zhd)) rfl (by decide) dX3_isBetter_13 zhd)
  (CS.retZ (CX.pure (CE.bool (T := 33) (F := 37) (q := 38) (CC.or (CC.if_lt_T (T := 33) (F := 18) (CE.iload_n rfl dX3_isBetter_14 zhd) dX3_isBetter_15 rfl rfl) (CC.and (CC.if_eq_F (T := 22) (F := 37) (CE.iload_n rfl dX3_isBetter_18 zhd) dX3_isBetter_19 rfl rfl) (CC.icmp_lt_F (T := 33) (F := 37) (CE.callS (by decide) (CA.int (CE.iload_n rfl dX3_isBetter_22 zhd) CA.nil) zi_217 cs_X3_45 (fun _ => rfl) dX3_isBetter_23 zhd) (CE.callS (by decide) (CA.int (CE.iload_n rfl dX3_isBetter_26 zhd) CA.nil) zi_217 cs_X3_45 (fun _ => rfl) dX3_isBetter_27 zhd) dX3_isBetter_30 rfl rfl))) dX3_isBetter_33 rfl dX3_isBetter_34 rfl zhd dX3_isBetter_37 zhd)) dX3_isBetter_38))
theorem dX3_costOf_0 : decode cX3_costOf 0 = .ok (.iconst 0, 1) := by decide +kernel
theorem dX3_costOf_1 : decode cX3_costOf 1 = .ok (.istore_n 2, 1) := by decide +kernel
theorem dX3_costOf_2 : decode cX3_costOf 2 = .ok (.iconst 0, 1) := by decide +kernel
theorem dX3_costOf_3 : decode cX3_costOf 3 = .ok (.istore_n 3, 1) := by decide +kernel
theorem dX3_costOf_4 : decode cX3_costOf 4 = .ok (.iload_n 3, 1) := by decide +kernel
theorem dX3_costOf_5 : decode cX3_costOf 5 = .ok (.aload_n 0, 1) := by decide +kernel
theorem dX3_costOf_6 : decode cX3_costOf 6 = .ok (.getfield 23, 3) := by decide +kernel
theorem dX3_costOf_9 : decode cX3_costOf 9 = .ok (.if_icmp .ge 26, 3) := by decide +kernel
theorem dX3_costOf_12 : decode cX3_costOf 12 = .ok (.iload_n 1, 1) := by decide +kernel
theorem dX3_costOf_13 : decode cX3_costOf 13 = .ok (.iload_n 3, 1) := by decide +kernel
theorem dX3_costOf_14 : decode cX3_costOf 14 = .ok (.ishr, 1) := by decide +kernel
theorem dX3_costOf_15 : decode cX3_costOf 15 = .ok (.iconst 1, 1) := by decide +kernel
theorem dX3_costOf_16 : decode cX3_costOf 16 = .ok (.iand, 1) := by decide +kernel
theorem dX3_costOf_17 : decode cX3_costOf 17 = .ok (.ifCond .eq 12, 3) := by decide +kernel
theorem dX3_costOf_20 : decode cX3_costOf 20 = .ok (.iload_n 2, 1) := by decide +kernel
theorem dX3_costOf_21 : decode cX3_costOf 21 = .ok (.aload_n 0, 1) := by decide +kernel
theorem dX3_costOf_22 : decode cX3_costOf 22 = .ok (.getfield 9, 3) := by decide +kernel
theorem dX3_costOf_25 : decode cX3_costOf 25 = .ok (.iload_n 3, 1) := by decide +kernel
theorem dX3_costOf_26 : decode cX3_costOf 26 = .ok (.iaload, 1) := by decide +kernel
theorem dX3_costOf_27 : decode cX3_costOf 27 = .ok (.iadd, 1) := by decide +kernel
theorem dX3_costOf_28 : decode cX3_costOf 28 = .ok (.istore_n 2, 1) := by decide +kernel
theorem dX3_costOf_29 : decode cX3_costOf 29 = .ok (.iinc 3 1, 3) := by decide +kernel
theorem dX3_costOf_32 : decode cX3_costOf 32 = .ok (.goto (-28), 3) := by decide +kernel
theorem dX3_costOf_35 : decode cX3_costOf 35 = .ok (.iload_n 2, 1) := by decide +kernel
theorem dX3_costOf_36 : decode cX3_costOf 36 = .ok (.ireturn, 1) := by decide +kernel
theorem cd_29 (G : ZG) (d : Nat) (K : ZKt) (F : ZFt) (hT : zt5 G.2.2.2) : CS G RX3 cX3_costOf 4 d K (some .int) [] (fun _ => []) 0 (bd_29 G.2.2.2 K F) := by
  unfold bd_29
  exact (CS.seq 2 (CS.decI_n (CX.pure (CE.iconst kI_0 dX3_costOf_0 zhd)) rfl (by decide) dX3_costOf_1 zhd)
  (CS.seq 35 (CS.scope (CS.seq 4 (CS.decI_n (CX.pure (CE.iconst kI_0 dX3_costOf_2 zhd)) rfl (by decide) dX3_costOf_3 zhd)
  (CS.whl (T := 12) (F := 35) (p1 := 32) (CD.pure (CC.icmp_lt_F (T := 12) (F := 35) (CE.iload_n rfl dX3_costOf_4 zhd) (CE.getI (CE.aload_n rfl dX3_costOf_5 zhd) fs_X3_23 dX3_costOf_6 zhd) dX3_costOf_9 rfl rfl))
  (CS.seq 29 (CS.if1 (T := 20) (F := 29) (CD.pure (CC.if_ne_F (T := 20) (F := 29) (CE.iand (CE.ishr (CE.iload_n rfl dX3_costOf_12 zhd) (CE.iload_n rfl dX3_costOf_13 zhd) dX3_costOf_14 zhd) (CE.iconst kI_1 dX3_costOf_15 zhd) dX3_costOf_16 zhd) dX3_costOf_17 rfl rfl)) (CS.setI_n (CX.pure (CE.iadd (CE.iload_n rfl dX3_costOf_20 zhd) (CE.aldI (CE.getR (CE.aload_n rfl dX3_costOf_21 zhd) fs_X3_9 dX3_costOf_22 zhd) (CE.iload_n rfl dX3_costOf_25 zhd) (Or.inl ⟨rfl, dX3_costOf_26⟩) zhd) dX3_costOf_27 zhd)) rfl (by decide) dX3_costOf_28 zhd) zhd)
  (CS.inc kI_1 (by decide) dX3_costOf_29 zhd)) dX3_costOf_32 rfl zhd)))
  (CS.retI (CX.pure (CE.iload_n rfl dX3_costOf_35 zhd)) dX3_costOf_36)))
theorem dX3_findsAll_0 : decode cX3_findsAll 0 = .ok (.iconst 0, 1) := by decide +kernel
theorem dX3_findsAll_1 : decode cX3_findsAll 1 = .ok (.istore_n 2, 1) := by decide +kernel
theorem dX3_findsAll_2 : decode cX3_findsAll 2 = .ok (.iload_n 2, 1) := by decide +kernel
theorem dX3_findsAll_3 : decode cX3_findsAll 3 = .ok (.iconst 4, 1) := by decide +kernel
theorem dX3_findsAll_4 : decode cX3_findsAll 4 = .ok (.if_icmp .ge 20, 3) := by decide +kernel
theorem dX3_findsAll_7 : decode cX3_findsAll 7 = .ok (.aload_n 0, 1) := by decide +kernel
theorem dX3_findsAll_8 : decode cX3_findsAll 8 = .ok (.iload_n 1, 1) := by decide +kernel
theorem dX3_findsAll_9 : decode cX3_findsAll 9 = .ok (.iload_n 2, 1) := by decide +kernel
theorem dX3_findsAll_10 : decode cX3_findsAll 10 = .ok (.invokevirtual 48, 3) := by decide +kernel
theorem dX3_findsAll_13 : decode cX3_findsAll 13 = .ok (.ifCond .ne 5, 3) := by decide +kernel
theorem dX3_findsAll_16 : decode cX3_findsAll 16 = .ok (.iconst 0, 1) := by decide +kernel
theorem dX3_findsAll_17 : decode cX3_findsAll 17 = .ok (.ireturn, 1) := by decide +kernel
theorem dX3_findsAll_18 : decode cX3_findsAll 18 = .ok (.iinc 2 1, 3) := by decide +kernel
theorem dX3_findsAll_21 : decode cX3_findsAll 21 = .ok (.goto (-19), 3) := by decide +kernel
theorem dX3_findsAll_24 : decode cX3_findsAll 24 = .ok (.iconst 1, 1) := by decide +kernel
theorem dX3_findsAll_25 : decode cX3_findsAll 25 = .ok (.ireturn, 1) := by decide +kernel
theorem cd_30 (G : ZG) (d : Nat) (K : ZKt) (F : ZFt) (hT : zt5 G.2.2.2) : CS G RX3 cX3_findsAll 3 d K (some .boolean) [] (fun _ => []) 0 (bd_30 G.2.2.2 K F) := by
  unfold bd_30
  exact (CS.seq 24 (CS.scope (CS.seq 2 (CS.decI_n (CX.pure (CE.iconst kI_0 dX3_findsAll_0 zhd)) rfl (by decide) dX3_findsAll_1 zhd)
  (CS.whl (T := 7) (F := 24) (p1 := 21) (CD.pure (CC.icmp_lt_F (T := 7) (F := 24) (CE.iload_n rfl dX3_findsAll_2 zhd) (CE.iconst kI_4 dX3_findsAll_3 zhd) dX3_findsAll_4 rfl rfl))
  (CS.seq 18 (CS.if1 (T := 16) (F := 18) (CD.pure (CC.not (CC.if_ne_T (T := 18) (F := 16) (CE.callV (by decide) (CA.ref (CE.aload_n rfl dX3_findsAll_7 zhd) (CA.int (CE.iload_n rfl dX3_findsAll_8 zhd) (CA.int (CE.iload_n rfl dX3_findsAll_9 zhd) CA.nil))) zi_31 cv_X3_48 (fun _ => rfl) dX3_findsAll_10 zhd) dX3_findsAll_13 rfl rfl))) (CS.retZ (CX.pure (CE.iconst kI_0 dX3_findsAll_16 zhd)) dX3_findsAll_17) zhd)
  (CS.inc kI_1 (by decide) dX3_findsAll_18 zhd)) dX3_findsAll_21 rfl zhd)))
  (CS.retZ (CX.pure (CE.iconst kI_1 dX3_findsAll_24 zhd)) dX3_findsAll_25))
theorem dX3_findsAsAsked_0 : decode cX3_findsAsAsked 0 = .ok (.ldc2_w 51, 3) := by decide +kernel
theorem dX3_findsAsAsked_3 : decode cX3_findsAsAsked 3 = .ok (.lstore_n 3, 1) := by decide +kernel
theorem dX3_findsAsAsked_4 : decode cX3_findsAsAsked 4 = .ok (.bipush 100, 2) := by decide +kernel
theorem dX3_findsAsAsked_6 : decode cX3_findsAsAsked 6 = .ok (.aload_n 0, 1) := by decide +kernel
theorem dX3_findsAsAsked_7 : decode cX3_findsAsAsked 7 = .ok (.getfield 20, 3) := by decide +kernel
theorem dX3_findsAsAsked_10 : decode cX3_findsAsAsked 10 = .ok (.iload_n 2, 1) := by decide +kernel
theorem dX3_findsAsAsked_11 : decode cX3_findsAsAsked 11 = .ok (.iaload, 1) := by decide +kernel
theorem dX3_findsAsAsked_12 : decode cX3_findsAsAsked 12 = .ok (.isub, 1) := by decide +kernel
theorem dX3_findsAsAsked_13 : decode cX3_findsAsAsked 13 = .ok (.i2l, 1) := by decide +kernel
theorem dX3_findsAsAsked_14 : decode cX3_findsAsAsked 14 = .ok (.lstore 5, 2) := by decide +kernel
theorem dX3_findsAsAsked_16 : decode cX3_findsAsAsked 16 = .ok (.iconst 0, 1) := by decide +kernel
theorem dX3_findsAsAsked_17 : decode cX3_findsAsAsked 17 = .ok (.istore 7, 2) := by decide +kernel
theorem dX3_findsAsAsked_19 : decode cX3_findsAsAsked 19 = .ok (.iload 7, 2) := by decide +kernel
theorem dX3_findsAsAsked_21 : decode cX3_findsAsAsked 21 = .ok (.aload_n 0, 1) := by decide +kernel
theorem dX3_findsAsAsked_22 : decode cX3_findsAsAsked 22 = .ok (.getfield 23, 3) := by decide +kernel
theorem dX3_findsAsAsked_25 : decode cX3_findsAsAsked 25 = .ok (.if_icmp .ge 45, 3) := by decide +kernel
theorem dX3_findsAsAsked_28 : decode cX3_findsAsAsked 28 = .ok (.iload_n 1, 1) := by decide +kernel
theorem dX3_findsAsAsked_29 : decode cX3_findsAsAsked 29 = .ok (.iload 7, 2) := by decide +kernel
theorem dX3_findsAsAsked_31 : decode cX3_findsAsAsked 31 = .ok (.ishr, 1) := by decide +kernel
theorem dX3_findsAsAsked_32 : decode cX3_findsAsAsked 32 = .ok (.iconst 1, 1) := by decide +kernel
theorem dX3_findsAsAsked_33 : decode cX3_findsAsAsked 33 = .ok (.iand, 1) := by decide +kernel
theorem dX3_findsAsAsked_34 : decode cX3_findsAsAsked 34 = .ok (.ifCond .ne 6, 3) := by decide +kernel
theorem dX3_findsAsAsked_37 : decode cX3_findsAsAsked 37 = .ok (.goto 27, 3) := by decide +kernel
theorem dX3_findsAsAsked_40 : decode cX3_findsAsAsked 40 = .ok (.lload_n 3, 1) := by decide +kernel
theorem dX3_findsAsAsked_41 : decode cX3_findsAsAsked 41 = .ok (.bipush 100, 2) := by decide +kernel
theorem dX3_findsAsAsked_43 : decode cX3_findsAsAsked 43 = .ok (.aload_n 0, 1) := by decide +kernel
theorem dX3_findsAsAsked_44 : decode cX3_findsAsAsked 44 = .ok (.getfield 17, 3) := by decide +kernel
theorem dX3_findsAsAsked_47 : decode cX3_findsAsAsked 47 = .ok (.iload 7, 2) := by decide +kernel
theorem dX3_findsAsAsked_49 : decode cX3_findsAsAsked 49 = .ok (.aaload, 1) := by decide +kernel
theorem dX3_findsAsAsked_50 : decode cX3_findsAsAsked 50 = .ok (.iload_n 2, 1) := by decide +kernel
theorem dX3_findsAsAsked_51 : decode cX3_findsAsAsked 51 = .ok (.iaload, 1) := by decide +kernel
theorem dX3_findsAsAsked_52 : decode cX3_findsAsAsked 52 = .ok (.isub, 1) := by decide +kernel
theorem dX3_findsAsAsked_53 : decode cX3_findsAsAsked 53 = .ok (.i2l, 1) := by decide +kernel
theorem dX3_findsAsAsked_54 : decode cX3_findsAsAsked 54 = .ok (.lmul, 1) := by decide +kernel
theorem dX3_findsAsAsked_55 : decode cX3_findsAsAsked 55 = .ok (.lstore_n 3, 1) := by decide +kernel
theorem dX3_findsAsAsked_56 : decode cX3_findsAsAsked 56 = .ok (.lload 5, 2) := by decide +kernel
theorem dX3_findsAsAsked_58 : decode cX3_findsAsAsked 58 = .ok (.ldc2_w 51, 3) := by decide +kernel
theorem dX3_findsAsAsked_61 : decode cX3_findsAsAsked 61 = .ok (.lmul, 1) := by decide +kernel
theorem dX3_findsAsAsked_62 : decode cX3_findsAsAsked 62 = .ok (.lstore 5, 2) := by decide +kernel
theorem dX3_findsAsAsked_64 : decode cX3_findsAsAsked 64 = .ok (.iinc 7 1, 3) := by decide +kernel
theorem dX3_findsAsAsked_67 : decode cX3_findsAsAsked 67 = .ok (.goto (-48), 3) := by decide +kernel
theorem dX3_findsAsAsked_70 : decode cX3_findsAsAsked 70 = .ok (.lload_n 3, 1) := by decide +kernel
theorem dX3_findsAsAsked_71 : decode cX3_findsAsAsked 71 = .ok (.lload 5, 2) := by decide +kernel
theorem dX3_findsAsAsked_73 : decode cX3_findsAsAsked 73 = .ok (.lcmp, 1) := by decide +kernel
theorem dX3_findsAsAsked_74 : decode cX3_findsAsAsked 74 = .ok (.ifCond .gt 7, 3) := by decide +kernel
theorem dX3_findsAsAsked_77 : decode cX3_findsAsAsked 77 = .ok (.iconst 1, 1) := by decide +kernel
theorem dX3_findsAsAsked_78 : decode cX3_findsAsAsked 78 = .ok (.goto 4, 3) := by decide +kernel
theorem dX3_findsAsAsked_81 : decode cX3_findsAsAsked 81 = .ok (.iconst 0, 1) := by decide +kernel
theorem dX3_findsAsAsked_82 : decode cX3_findsAsAsked 82 = .ok (.ireturn, 1) := by decide +kernel
theorem cd_31 (G : ZG) (d : Nat) (K : ZKt) (F : ZFt) (hT : zt5 G.2.2.2) : CS G RX3 cX3_findsAsAsked 8 d K (some .boolean) [] (fun _ => []) 0 (bd_31 G.2.2.2 K F) := by
  unfold bd_31
  exact (CS.seq 4 (CS.decL_n (CX.pure (CE.ldc2 lc_X3_51 dX3_findsAsAsked_0 zhd)) rfl (by decide) dX3_findsAsAsked_3 zhd)
  (CS.seq 16 (CS.decL (CX.pure (CE.i2l (CE.isub (CE.bipush kB_100 dX3_findsAsAsked_4 zhd) (CE.aldI (CE.getR (CE.aload_n rfl dX3_findsAsAsked_6 zhd) fs_X3_20 dX3_findsAsAsked_7 zhd) (CE.iload_n rfl dX3_findsAsAsked_10 zhd) (Or.inl ⟨rfl, dX3_findsAsAsked_11⟩) zhd) dX3_findsAsAsked_12 zhd) dX3_findsAsAsked_13 zhd)) (by decide) dX3_findsAsAsked_14 zhd)
  (CS.seq 70 (CS.scope (CS.seq 19 (CS.decI (CX.pure (CE.iconst kI_0 dX3_findsAsAsked_16 zhd)) (by decide) dX3_findsAsAsked_17 zhd)
  (CS.for (T := 28) (F := 70) (pu := 64) (p1 := 67) (kb := 1) (kc := 2) (CD.pure (CC.icmp_lt_F (T := 28) (F := 70) (CE.iload dX3_findsAsAsked_19 zhd) (CE.getI (CE.aload_n rfl dX3_findsAsAsked_21 zhd) fs_X3_23 dX3_findsAsAsked_22 zhd) dX3_findsAsAsked_25 rfl rfl))
  (CS.seq 40 (CS.ifT (F := 40) (CDT.of (CD.pure (CC.if_eq_F (T := 37) (F := 40) (CE.iand (CE.ishr (CE.iload_n rfl dX3_findsAsAsked_28 zhd) (CE.iload dX3_findsAsAsked_29 zhd) dX3_findsAsAsked_31 zhd) (CE.iconst kI_1 dX3_findsAsAsked_32 zhd) dX3_findsAsAsked_33 zhd) dX3_findsAsAsked_34 rfl rfl)) zhd) (CS.brk (q := 64) dX3_findsAsAsked_37 rfl zhd) (CS.brk0 zhd) zhd)
  (CS.seq 56 (CS.setL_n (CX.pure (CE.lmul (CE.lload_n rfl dX3_findsAsAsked_40 zhd) (CE.i2l (CE.isub (CE.bipush kB_100 dX3_findsAsAsked_41 zhd) (CE.aldI (CE.aldR (CE.getR (CE.aload_n rfl dX3_findsAsAsked_43 zhd) fs_X3_17 dX3_findsAsAsked_44 zhd) (CE.iload dX3_findsAsAsked_47 zhd) dX3_findsAsAsked_49 zhd) (CE.iload_n rfl dX3_findsAsAsked_50 zhd) (Or.inl ⟨rfl, dX3_findsAsAsked_51⟩) zhd) dX3_findsAsAsked_52 zhd) dX3_findsAsAsked_53 zhd) dX3_findsAsAsked_54 zhd)) rfl (by decide) dX3_findsAsAsked_55 zhd)
  (CS.setL (CX.pure (CE.lmul (CE.lload dX3_findsAsAsked_56 zhd) (CE.ldc2 lc_X3_51 dX3_findsAsAsked_58 zhd) dX3_findsAsAsked_61 zhd)) (by decide) dX3_findsAsAsked_62 zhd))) (CS.inc kI_1 (by decide) dX3_findsAsAsked_64 zhd) dX3_findsAsAsked_67 rfl zhd)))
  (CS.retZ (CX.pure (CE.bool (T := 77) (F := 81) (q := 82) (CC.lcmp_le_F (T := 77) (F := 81) (CE.lload_n rfl dX3_findsAsAsked_70 zhd) (CE.lload dX3_findsAsAsked_71 zhd) dX3_findsAsAsked_73 dX3_findsAsAsked_74 rfl rfl) dX3_findsAsAsked_77 rfl dX3_findsAsAsked_78 rfl zhd dX3_findsAsAsked_81 zhd)) dX3_findsAsAsked_82))))
theorem dX3_fold_0 : decode cX3_fold 0 = .ok (.lload_n 1, 1) := by decide +kernel
theorem dX3_fold_1 : decode cX3_fold 1 = .ok (.lstore_n 3, 1) := by decide +kernel
theorem dX3_fold_2 : decode cX3_fold 2 = .ok (.iconst 0, 1) := by decide +kernel
theorem dX3_fold_3 : decode cX3_fold 3 = .ok (.istore 5, 2) := by decide +kernel
theorem dX3_fold_5 : decode cX3_fold 5 = .ok (.iload 5, 2) := by decide +kernel
theorem dX3_fold_7 : decode cX3_fold 7 = .ok (.aload_n 0, 1) := by decide +kernel
theorem dX3_fold_8 : decode cX3_fold 8 = .ok (.getfield 23, 3) := by decide +kernel
theorem dX3_fold_11 : decode cX3_fold 11 = .ok (.if_icmp .ge 33, 3) := by decide +kernel
theorem dX3_fold_14 : decode cX3_fold 14 = .ok (.lload_n 3, 1) := by decide +kernel
theorem dX3_fold_15 : decode cX3_fold 15 = .ok (.aload_n 0, 1) := by decide +kernel
theorem dX3_fold_16 : decode cX3_fold 16 = .ok (.getfield 9, 3) := by decide +kernel
theorem dX3_fold_19 : decode cX3_fold 19 = .ok (.iload 5, 2) := by decide +kernel
theorem dX3_fold_21 : decode cX3_fold 21 = .ok (.iaload, 1) := by decide +kernel
theorem dX3_fold_22 : decode cX3_fold 22 = .ok (.i2l, 1) := by decide +kernel
theorem dX3_fold_23 : decode cX3_fold 23 = .ok (.invokestatic 53, 3) := by decide +kernel
theorem dX3_fold_26 : decode cX3_fold 26 = .ok (.aload_n 0, 1) := by decide +kernel
theorem dX3_fold_27 : decode cX3_fold 27 = .ok (.getfield 17, 3) := by decide +kernel
theorem dX3_fold_30 : decode cX3_fold 30 = .ok (.iload 5, 2) := by decide +kernel
theorem dX3_fold_32 : decode cX3_fold 32 = .ok (.aaload, 1) := by decide +kernel
theorem dX3_fold_33 : decode cX3_fold 33 = .ok (.iconst 4, 1) := by decide +kernel
theorem dX3_fold_34 : decode cX3_fold 34 = .ok (.invokestatic 57, 3) := by decide +kernel
theorem dX3_fold_37 : decode cX3_fold 37 = .ok (.lstore_n 3, 1) := by decide +kernel
theorem dX3_fold_38 : decode cX3_fold 38 = .ok (.iinc 5 1, 3) := by decide +kernel
theorem dX3_fold_41 : decode cX3_fold 41 = .ok (.goto (-36), 3) := by decide +kernel
theorem dX3_fold_44 : decode cX3_fold 44 = .ok (.lload_n 3, 1) := by decide +kernel
theorem dX3_fold_45 : decode cX3_fold 45 = .ok (.aload_n 0, 1) := by decide +kernel
theorem dX3_fold_46 : decode cX3_fold 46 = .ok (.getfield 20, 3) := by decide +kernel
theorem dX3_fold_49 : decode cX3_fold 49 = .ok (.iconst 4, 1) := by decide +kernel
theorem dX3_fold_50 : decode cX3_fold 50 = .ok (.invokestatic 57, 3) := by decide +kernel
theorem dX3_fold_53 : decode cX3_fold 53 = .ok (.lreturn, 1) := by decide +kernel
theorem cd_32 (G : ZG) (d : Nat) (K : ZKt) (F : ZFt) (hT : zt5 G.2.2.2) : CS G RX3 cX3_fold 6 d K (some .long) [] (fun _ => []) 0 (bd_32 G.2.2.2 K F) := by
  unfold bd_32
  exact (CS.seq 2 (CS.decL_n (CX.pure (CE.lload_n rfl dX3_fold_0 zhd)) rfl (by decide) dX3_fold_1 zhd)
  (CS.seq 44 (CS.scope (CS.seq 5 (CS.decI (CX.pure (CE.iconst kI_0 dX3_fold_2 zhd)) (by decide) dX3_fold_3 zhd)
  (CS.whl (T := 14) (F := 44) (p1 := 41) (CD.pure (CC.icmp_lt_F (T := 14) (F := 44) (CE.iload dX3_fold_5 zhd) (CE.getI (CE.aload_n rfl dX3_fold_7 zhd) fs_X3_23 dX3_fold_8 zhd) dX3_fold_11 rfl rfl))
  (CS.seq 38 (CS.setL_n (CX.pure (CE.callS (by decide) (CA.long (CE.callS (by decide) (CA.long (CE.lload_n rfl dX3_fold_14 zhd) (CA.long (CE.i2l (CE.aldI (CE.getR (CE.aload_n rfl dX3_fold_15 zhd) fs_X3_9 dX3_fold_16 zhd) (CE.iload dX3_fold_19 zhd) (Or.inl ⟨rfl, dX3_fold_21⟩) zhd) dX3_fold_22 zhd) CA.nil)) zi_132 cs_X3_53 (fun _ => rfl) dX3_fold_23 zhd) (CA.ref (CE.aldR (CE.getR (CE.aload_n rfl dX3_fold_26 zhd) fs_X3_17 dX3_fold_27 zhd) (CE.iload dX3_fold_30 zhd) dX3_fold_32 zhd) (CA.int (CE.iconst kI_4 dX3_fold_33 zhd) CA.nil))) zi_133 cs_X3_57 (fun _ => rfl) dX3_fold_34 zhd)) rfl (by decide) dX3_fold_37 zhd)
  (CS.inc kI_1 (by decide) dX3_fold_38 zhd)) dX3_fold_41 rfl zhd)))
  (CS.retL (CX.pure (CE.callS (by decide) (CA.long (CE.lload_n rfl dX3_fold_44 zhd) (CA.ref (CE.getR (CE.aload_n rfl dX3_fold_45 zhd) fs_X3_20 dX3_fold_46 zhd) (CA.int (CE.iconst kI_4 dX3_fold_49 zhd) CA.nil))) zi_133 cs_X3_57 (fun _ => rfl) dX3_fold_50 zhd)) dX3_fold_53)))
