/-! THE METHODS TOGETHER: what a call does, by depth; and that the machine meets it -/
def bdL : List (List ZD → ZKt → ZFt → ZSt) := [bd_0, bd_1, bd_2, bd_3, bd_4, bd_5, bd_6, bd_7, be_8, bd_9, bd_10, bd_11, bd_12, bd_13, bd_14, bd_15, bd_16, bd_17, bd_18, bd_19, bd_20, bd_21, bd_22, bd_23, bd_24, bd_25, bd_26, bd_27, bd_28, bd_29, bd_30, bd_31, bd_32, bd_33, bd_34, bd_35, bd_36, bd_37, be_38, bd_39, bd_40, bd_41, bd_42, bd_43, bd_44, bd_45, bd_46, bd_47, be_48, be_49, bd_50, bd_51, bd_52, bd_53, bd_54, bd_55, bd_56, bd_57, bd_58, bd_59, bd_60, bd_61, bd_62, be_63, bd_64, bd_65, bd_66, bd_67, bd_68, bd_69, bd_70, bd_71, bd_72, bd_73, bd_74, bd_75, bd_76, bd_77, bd_78, bd_79, bd_80, bd_81, bd_82, bd_83, bd_84, bd_85, bd_86, bd_87, bd_88, bd_89, bd_90, bd_91, bd_92, bd_93, bd_94, bd_95, bd_96, bd_97, bd_98, bd_99, bd_100, bd_101, bd_102, bd_103, bd_104, bd_105, bd_106, bd_107, bd_108, bd_109, bd_110, bd_111, bd_112, bd_113, bd_114, bd_115, bd_116, bd_117, bd_118, bd_119, bd_120, bd_121, bd_122, bd_123, bd_124, bd_125, bd_126, bd_127, bd_128, bd_129, bd_130, bd_131, bd_132, bd_133, be_134, bd_135, bd_136, bd_137, bd_138, bd_139, bd_140, bd_141, bd_142, bd_143, bd_144, bd_145, bd_146, bd_147, bd_148, bd_149, bd_150, bd_151, bd_152, bd_153, bd_154, bd_155, bd_156, bd_157, bd_158, bd_159, bd_160, bd_161, bd_162, bd_163, bd_164, bd_165, bd_166, bd_167, bd_168, bd_169, bd_170, bd_171, bd_172, bd_173, bd_174, bd_175, bd_176, bd_177, bd_178, bd_179, bd_180, bd_181, bd_182, bd_183, bd_184, bd_185, bd_186, bd_187, bd_188, bd_189, bd_190, bd_191, bd_192, bd_193, bd_194, bd_195, bd_196, bd_197, bd_198, bd_199, bd_200, bd_201, bd_202, bd_203, bd_204, bd_205, bd_206, bd_207, bd_208, bd_209, bd_210, bd_211, bd_212, bd_213, bd_214, bd_215, bd_216, bd_217, bd_218, bd_219]
def zno : List ZD → ZKt → ZFt → ZSt := fun _ _ _ _ _ _ _ => False
def bdN (k : Nat) : List ZD → ZKt → ZFt → ZSt := bdL.getD k zno
/-- the words of arguments -/
def zaw : List Value → Nat
  | [] => 0
  | v :: vs => v.category + zaw vs
/-- A CALL of method k, by the bodies, at most d deep -/
def KK (Z : List ZD) (F : ZFt) : Nat → ZKt
  | 0 => fun _ _ _ _ => False
  | d + 1 => fun k as μ P => zaw as ≤ (zinfo k).2.2.1 ∧ bdN k Z (KK Z F d) F (zen as, μ) (fun _ => False) P (fun _ _ => False)
theorem KK_in {Z : List ZD} {F : ZFt} {d k : Nat} {as : List Value} {μ : ZM} {P : Option Value → ZM → Prop} (b : List ZD → ZKt → ZFt → ZSt) (hb : bdN k = b) (hw : zaw as ≤ (zinfo k).2.2.1) (h : b Z (KK Z F d) F (zen as, μ) (fun _ => False) P (fun _ _ => False)) : KK Z F (d + 1) k as μ P := ⟨hw, by rw [hb]; exact h⟩
def zOK (G : ZG) (d : Nat) (K : ZKt) (F : ZFt) : List ZI → List (List ZD → ZKt → ZFt → ZSt) → Prop
  | [], _ => True
  | _, [] => True
  | I :: Is, b :: bs => CS G I.1.cls I.2.1 I.2.2.1 d K I.2.2.2 [] (fun _ => []) 0 (b G.2.2.2 K F) ∧ zOK G d K F Is bs
theorem zOK_at {G : ZG} {d : Nat} {K : ZKt} {F : ZFt} : ∀ {Is : List ZI} {bs : List (List ZD → ZKt → ZFt → ZSt)} {k : Nat} {I : ZI} {b : List ZD → ZKt → ZFt → ZSt}, zOK G d K F Is bs → Is[k]? = some I → bs[k]? = some b → CS G I.1.cls I.2.1 I.2.2.1 d K I.2.2.2 [] (fun _ => []) 0 (b G.2.2.2 K F) := by
  intro Is
  induction Is with
  | nil => intro bs k I b _ h; cases k <;> cases h
  | cons J Js ih =>
    intro bs k I b h h1 h2
    cases bs with
    | nil => cases k <;> cases h2
    | cons c cs =>
      cases k with
      | zero => cases h1; cases h2; exact h.1
      | succ k => exact ih h.2 (by simpa using h1) (by simpa using h2)
theorem zok_all (G : ZG) (d : Nat) (K : ZKt) (F : ZFt) (hT : zt5 G.2.2.2) : zOK G d K F zinfoL bdL := ⟨cd_0 G d K F hT, cd_1 G d K F hT, cd_2 G d K F hT, cd_3 G d K F hT, cd_4 G d K F hT, cd_5 G d K F hT, cd_6 G d K F hT, cd_7 G d K F hT, ce_8 G d K F hT, cd_9 G d K F hT, cd_10 G d K F hT, cd_11 G d K F hT, cd_12 G d K F hT, cd_13 G d K F hT, cd_14 G d K F hT, cd_15 G d K F hT, cd_16 G d K F hT, cd_17 G d K F hT, cd_18 G d K F hT, cd_19 G d K F hT, cd_20 G d K F hT, cd_21 G d K F hT, cd_22 G d K F hT, cd_23 G d K F hT, cd_24 G d K F hT, cd_25 G d K F hT, cd_26 G d K F hT, cd_27 G d K F hT, cd_28 G d K F hT, cd_29 G d K F hT, cd_30 G d K F hT, cd_31 G d K F hT, cd_32 G d K F hT, cd_33 G d K F hT, cd_34 G d K F hT, cd_35 G d K F hT, cd_36 G d K F hT, cd_37 G d K F hT, ce_38 G d K F hT, cd_39 G d K F hT, cd_40 G d K F hT, cd_41 G d K F hT, cd_42 G d K F hT, cd_43 G d K F hT, cd_44 G d K F hT, cd_45 G d K F hT, cd_46 G d K F hT, cd_47 G d K F hT, ce_48 G d K F hT, ce_49 G d K F hT, cd_50 G d K F hT, cd_51 G d K F hT, cd_52 G d K F hT, cd_53 G d K F hT, cd_54 G d K F hT, cd_55 G d K F hT, cd_56 G d K F hT, cd_57 G d K F hT, cd_58 G d K F hT, cd_59 G d K F hT, cd_60 G d K F hT, cd_61 G d K F hT, cd_62 G d K F hT, ce_63 G d K F hT, cd_64 G d K F hT, cd_65 G d K F hT, cd_66 G d K F hT, cd_67 G d K F hT, cd_68 G d K F hT, cd_69 G d K F hT, cd_70 G d K F hT, cd_71 G d K F hT, cd_72 G d K F hT, cd_73 G d K F hT, cd_74 G d K F hT, cd_75 G d K F hT, cd_76 G d K F hT, cd_77 G d K F hT, cd_78 G d K F hT, cd_79 G d K F hT, cd_80 G d K F hT, cd_81 G d K F hT, cd_82 G d K F hT, cd_83 G d K F hT, cd_84 G d K F hT, cd_85 G d K F hT, cd_86 G d K F hT, cd_87 G d K F hT, cd_88 G d K F hT, cd_89 G d K F hT, cd_90 G d K F hT, cd_91 G d K F hT, cd_92 G d K F hT, cd_93 G d K F hT, cd_94 G d K F hT, cd_95 G d K F hT, cd_96 G d K F hT, cd_97 G d K F hT, cd_98 G d K F hT, cd_99 G d K F hT, cd_100 G d K F hT, cd_101 G d K F hT, cd_102 G d K F hT, cd_103 G d K F hT, cd_104 G d K F hT, cd_105 G d K F hT, cd_106 G d K F hT, cd_107 G d K F hT, cd_108 G d K F hT, cd_109 G d K F hT, cd_110 G d K F hT, cd_111 G d K F hT, cd_112 G d K F hT, cd_113 G d K F hT, cd_114 G d K F hT, cd_115 G d K F hT, cd_116 G d K F hT, cd_117 G d K F hT, cd_118 G d K F hT, cd_119 G d K F hT, cd_120 G d K F hT, cd_121 G d K F hT, cd_122 G d K F hT, cd_123 G d K F hT, cd_124 G d K F hT, cd_125 G d K F hT, cd_126 G d K F hT, cd_127 G d K F hT, cd_128 G d K F hT, cd_129 G d K F hT, cd_130 G d K F hT, cd_131 G d K F hT, cd_132 G d K F hT, cd_133 G d K F hT, ce_134 G d K F hT, cd_135 G d K F hT, cd_136 G d K F hT, cd_137 G d K F hT, cd_138 G d K F hT, cd_139 G d K F hT, cd_140 G d K F hT, cd_141 G d K F hT, cd_142 G d K F hT, cd_143 G d K F hT, cd_144 G d K F hT, cd_145 G d K F hT, cd_146 G d K F hT, cd_147 G d K F hT, cd_148 G d K F hT, cd_149 G d K F hT, cd_150 G d K F hT, cd_151 G d K F hT, cd_152 G d K F hT, cd_153 G d K F hT, cd_154 G d K F hT, cd_155 G d K F hT, cd_156 G d K F hT, cd_157 G d K F hT, cd_158 G d K F hT, cd_159 G d K F hT, cd_160 G d K F hT, cd_161 G d K F hT, cd_162 G d K F hT, cd_163 G d K F hT, cd_164 G d K F hT, cd_165 G d K F hT, cd_166 G d K F hT, cd_167 G d K F hT, cd_168 G d K F hT, cd_169 G d K F hT, cd_170 G d K F hT, cd_171 G d K F hT, cd_172 G d K F hT, cd_173 G d K F hT, cd_174 G d K F hT, cd_175 G d K F hT, cd_176 G d K F hT, cd_177 G d K F hT, cd_178 G d K F hT, cd_179 G d K F hT, cd_180 G d K F hT, cd_181 G d K F hT, cd_182 G d K F hT, cd_183 G d K F hT, cd_184 G d K F hT, cd_185 G d K F hT, cd_186 G d K F hT, cd_187 G d K F hT, cd_188 G d K F hT, cd_189 G d K F hT, cd_190 G d K F hT, cd_191 G d K F hT, cd_192 G d K F hT, cd_193 G d K F hT, cd_194 G d K F hT, cd_195 G d K F hT, cd_196 G d K F hT, cd_197 G d K F hT, cd_198 G d K F hT, cd_199 G d K F hT, cd_200 G d K F hT, cd_201 G d K F hT, cd_202 G d K F hT, cd_203 G d K F hT, cd_204 G d K F hT, cd_205 G d K F hT, cd_206 G d K F hT, cd_207 G d K F hT, cd_208 G d K F hT, cd_209 G d K F hT, cd_210 G d K F hT, cd_211 G d K F hT, cd_212 G d K F hT, cd_213 G d K F hT, cd_214 G d K F hT, cd_215 G d K F hT, cd_216 G d K F hT, cd_217 G d K F hT, cd_218 G d K F hT, cd_219 G d K F hT, trivial⟩
theorem zplain : ∀ I ∈ zinfoL, plainName I.1.cls = true := by decide +kernel
set_option maxRecDepth 10000 in
theorem zlenL : zinfoL.length = bdL.length := rfl
theorem zaw_sl (b : Nat) : ∀ as : List Value, (lg_sl (as.map (zsh b))).length = zaw as := by
  intro as
  induction as with
  | nil => rfl
  | cons v vs ih =>
    have h1 : lg_sl ((v :: vs).map (zsh b)) = lg_sl [zsh b v] ++ lg_sl (vs.map (zsh b)) := by simp [lg_sl]
    rw [h1, List.length_append, ih]
    have h2 : (lg_sl [zsh b v]).length = v.category := by cases v <;> rfl
    rw [h2]; rfl
/-- WHAT THE BODIES SAY, THE MACHINE DOES -/
theorem KK_met (l : Launch) (G : ZG) (F : ZFt) (hT : zt5 G.2.2.2) : ∀ d k as μ P, KK G.2.2.2 F d k as μ P → ZT l G d (zinfo k) as μ P := by
  intro d
  induction d with
  | zero => intro k as μ P h; exact h.elim
  | succ d ih =>
    intro k as μ P h
    obtain ⟨hw, hb⟩ := h
    cases hk : bdL[k]? with
    | none =>
      have : bdN k = zno := by unfold bdN; rw [List.getD_eq_getElem?_getD, hk]; rfl
      rw [this] at hb
      exact hb.elim
    | some b =>
      have hlt : k < zinfoL.length := by rw [zlenL]; exact (List.getElem?_eq_some_iff.mp hk).1
      have hI : zinfoL[k]? = some (zinfo k) := by
        unfold zinfo
        rw [List.getD_eq_getElem?_getD, List.getElem?_eq_getElem hlt]; rfl
      have hbk : bdN k = b := by unfold bdN; rw [List.getD_eq_getElem?_getD, hk]; rfl
      rw [hbk] at hb
      exact ZT.of ih (zplain _ (List.mem_of_getElem? hI)) (zOK_at (zok_all G d (KK G.2.2.2 F d) F hT) hI hk) (by rw [zaw_sl]; exact hw) hb
/-- the cells of a new SmallMakers: 0 SmallMakers 1 Drawing 2 Drawing.kind 3 Drawing.name 4 Drawing.grade 5 Drawing.off 6 Drawing.off[0] 14 Drawing.span 15 Drawing.rate 16 Page 17 Page.letter 18 Page.sign 19 Page.part 20 Chains 21 Chains.terms 22 Chains.least 23 Chains.greatest 24 Chains.sign 25 Chains.sign[0] 31 Chains.part 32 Chains.part[0] 38 Chains.ways 39 Chains.next 40 GradeSearch 41 GradeSearch.best 42 GradeSearch.chosen 43 GradeSearch.room 44 GradeSearch.often 45 GradeSearch.often[0] 53 GradeSearch.used 54 GradeSearch.used[0] 61 Things 62 Things.part 63 Things.lot 64 Things.measures 65 Things.number 66 Things.number[0] 90 Things.error 91 Things.error[0] 115 Things.low 116 Things.high 117 Pairing 118 Pairing.partOf 119 Pairing.fits 120 Pairing.partner 121 Pairing.kept 122 Pairing.waiting 123 Pairing.reachedFrom 124 Machines 125 Machines.holds 126 Machines.holds[0] 132 Machines.place 133 Machines.toldAs 134 Machines.lots 135 Shops 136 Shops.hoursADay 137 Shops.cost 138 Shops.cost[0] 142 Shops.work 143 Shops.work[0] 147 Shops.lateOnes 148 Shops.lateBy 149 Shops.lateBy[0] 153 Orders 154 Orders.part 155 Orders.day 156 Orders.turn 157 Orders.best 158 Orders.chosen 159 Looks 160 Looks.cost 161 Looks.share 162 Looks.share[0] 168 Looks.wanted 169 Row 170 Row.value -/
def Zx : List ZD := [.inl (11, [some (some 1), some (some 16), some (some 20), some (some 40), some (some 61), some (some 117), some (some 124), some (some 135), some (some 153), some (some 159), some (some 169)]),
  .inl (1, [some (some 2), some (some 3), some (some 4), some (some 5), some (some 14), some (some 15)]),
  .inr (0, 8, 0),
  .inr (0, 8, 0),
  .inr (0, 8, 0),
  .inr (4, 8, 6),
  .inr (0, 9, 0),
  .inr (0, 9, 0),
  .inr (0, 9, 0),
  .inr (0, 9, 0),
  .inr (0, 9, 0),
  .inr (0, 9, 0),
  .inr (0, 9, 0),
  .inr (0, 9, 0),
  .inr (0, 4, 0),
  .inr (0, 4, 0),
  .inl (6, [some (some 17), none, some (some 18), some (some 19), none, none, none, none, none, none]),
  .inr (0, 40, 0),
  .inr (0, 6, 0),
  .inr (0, 6, 0),
  .inl (0, [none, some (some 21), some (some 22), some (some 23), some (some 24), some (some 31), some (some 38), some (some 39)]),
  .inr (0, 6, 0),
  .inr (0, 6, 0),
  .inr (0, 6, 0),
  .inr (4, 6, 25),
  .inr (0, 6, 0),
  .inr (0, 6, 0),
  .inr (0, 6, 0),
  .inr (0, 6, 0),
  .inr (0, 6, 0),
  .inr (0, 6, 0),
  .inr (4, 6, 32),
  .inr (0, 6, 0),
  .inr (0, 6, 0),
  .inr (0, 6, 0),
  .inr (0, 6, 0),
  .inr (0, 6, 0),
  .inr (0, 6, 0),
  .inr (1, 49, 0),
  .inr (1, 49, 0),
  .inl (2, [none, none, none, none, some (some 41), some (some 42), some (some 43), some (some 44), some (some 53)]),
  .inr (0, 6, 0),
  .inr (0, 6, 0),
  .inr (0, 6, 0),
  .inr (4, 8, 45),
  .inr (0, 6, 0),
  .inr (0, 6, 0),
  .inr (0, 6, 0),
  .inr (0, 6, 0),
  .inr (0, 6, 0),
  .inr (0, 6, 0),
  .inr (0, 6, 0),
  .inr (0, 6, 0),
  .inr (4, 7, 54),
  .inr (0, 6, 0),
  .inr (0, 6, 0),
  .inr (0, 6, 0),
  .inr (0, 6, 0),
  .inr (0, 6, 0),
  .inr (0, 6, 0),
  .inr (0, 6, 0),
  .inl (10, [none, none, some (some 62), some (some 63), some (some 64), some (some 65), some (some 90), some (some 115), some (some 116)]),
  .inr (0, 24, 0),
  .inr (0, 24, 0),
  .inr (0, 24, 0),
  .inr (4, 24, 66),
  .inr (0, 3, 0),
  .inr (0, 3, 0),
  .inr (0, 3, 0),
  .inr (0, 3, 0),
  .inr (0, 3, 0),
  .inr (0, 3, 0),
  .inr (0, 3, 0),
  .inr (0, 3, 0),
  .inr (0, 3, 0),
  .inr (0, 3, 0),
  .inr (0, 3, 0),
  .inr (0, 3, 0),
  .inr (0, 3, 0),
  .inr (0, 3, 0),
  .inr (0, 3, 0),
  .inr (0, 3, 0),
  .inr (0, 3, 0),
  .inr (0, 3, 0),
  .inr (0, 3, 0),
  .inr (0, 3, 0),
  .inr (0, 3, 0),
  .inr (0, 3, 0),
  .inr (0, 3, 0),
  .inr (0, 3, 0),
  .inr (4, 24, 91),
  .inr (0, 3, 0),
  .inr (0, 3, 0),
  .inr (0, 3, 0),
  .inr (0, 3, 0),
  .inr (0, 3, 0),
  .inr (0, 3, 0),
  .inr (0, 3, 0),
  .inr (0, 3, 0),
  .inr (0, 3, 0),
  .inr (0, 3, 0),
  .inr (0, 3, 0),
  .inr (0, 3, 0),
  .inr (0, 3, 0),
  .inr (0, 3, 0),
  .inr (0, 3, 0),
  .inr (0, 3, 0),
  .inr (0, 3, 0),
  .inr (0, 3, 0),
  .inr (0, 3, 0),
  .inr (0, 3, 0),
  .inr (0, 3, 0),
  .inr (0, 3, 0),
  .inr (0, 3, 0),
  .inr (0, 3, 0),
  .inr (0, 24, 0),
  .inr (0, 24, 0),
  .inl (7, [none, none, some (some 118), some (some 119), some (some 120), some (some 121), some (some 122), some (some 123)]),
  .inr (0, 24, 0),
  .inr (0, 24, 0),
  .inr (0, 24, 0),
  .inr (0, 24, 0),
  .inr (0, 24, 0),
  .inr (0, 24, 0),
  .inl (4, [some (some 125), some (some 132), some (some 133), some (some 134), none, none, none]),
  .inr (4, 6, 126),
  .inr (0, 8, 0),
  .inr (0, 8, 0),
  .inr (0, 8, 0),
  .inr (0, 8, 0),
  .inr (0, 8, 0),
  .inr (0, 8, 0),
  .inr (0, 24, 0),
  .inr (0, 6, 0),
  .inr (0, 6, 0),
  .inl (9, [some (some 136), some (some 137), some (some 142), some (some 147), some (some 148)]),
  .inr (0, 4, 0),
  .inr (4, 4, 138),
  .inr (0, 8, 0),
  .inr (0, 8, 0),
  .inr (0, 8, 0),
  .inr (0, 8, 0),
  .inr (4, 4, 143),
  .inr (0, 8, 0),
  .inr (0, 8, 0),
  .inr (0, 8, 0),
  .inr (0, 8, 0),
  .inr (0, 4, 0),
  .inr (4, 4, 149),
  .inr (0, 16, 0),
  .inr (0, 16, 0),
  .inr (0, 16, 0),
  .inr (0, 16, 0),
  .inl (5, [none, some (some 154), some (some 155), some (some 156), none, none, none, some (some 157), some (some 158)]),
  .inr (0, 6, 0),
  .inr (0, 6, 0),
  .inr (0, 6, 0),
  .inr (0, 6, 0),
  .inr (0, 6, 0),
  .inl (3, [none, some (some 160), some (some 161), some (some 168)]),
  .inr (0, 6, 0),
  .inr (4, 6, 162),
  .inr (0, 4, 0),
  .inr (0, 4, 0),
  .inr (0, 4, 0),
  .inr (0, 4, 0),
  .inr (0, 4, 0),
  .inr (0, 4, 0),
  .inr (0, 4, 0),
  .inl (8, [none, some (some 170)]),
  .inr (0, 12, 0)]
theorem Zx_5 : zt5 Zx := by
  intro b t n r h
  have h0 : ∀ b, b < 171 → ∀ x, zoa Zx b = some x → x.1 < 5 := by decide +kernel
  by_cases hb : b < 171
  · exact h0 b hb _ h
  · unfold zoa at h
    rw [List.getElem?_eq_none (by show Zx.length ≤ b; have : Zx.length = 171 := rfl; omega)] at h
    cases h
/-- the cells of a new SmallMakersModel: 0 SmallMakersModel 1 SmallMakersModel.kinds 2 SmallMakersModel.names 3 SmallMakersModel.grades 4 SmallMakersModel.spans 5 SmallMakersModel.rates 6 SmallMakersModel.countOf 7 SmallMakersModel.page 8 SmallMakersModel.termMany 9 SmallMakersModel.termPart 10 SmallMakersModel.termSign 11 SmallMakersModel.chainLeast 12 SmallMakersModel.chainMost 13 SmallMakersModel.thingPart 14 SmallMakersModel.thingLot 15 SmallMakersModel.measures 16 SmallMakersModel.numbers 17 SmallMakersModel.errors 18 SmallMakersModel.within 19 SmallMakersModel.toldAs 20 SmallMakersModel.hoursOf 21 SmallMakersModel.offerCost 22 SmallMakersModel.offerHours 23 SmallMakersModel.orderPart 24 SmallMakersModel.orderDay 25 SmallMakersModel.lates 26 SmallMakersModel.lateOf 27 SmallMakersModel.lookCost 28 SmallMakersModel.findsOf 29 SmallMakersModel.askedOf 30 SmallMakersModel.row 31 SmallMakersModel.readPart 32 SmallMakersModel.readSign 33 SmallMakersModel.readBound 34 SmallMakersModel.off 35 SmallMakersModel.offThen 36 SmallMakersModel.kept 37 SmallMakersModel.fit 38 SmallMakersModel.partner 39 SmallMakersModel.isOut 40 SmallMakersModel.cameFrom 41 SmallMakersModel.line 42 SmallMakersModel.paired 43 SmallMakersModel.goesTo -/
def Zm : List ZD := [.inl (12, [some (some 1), some (some 2), some (some 3), some (some 4), some (some 5), some (some 6), none, some (some 7), none, some (some 8), some (some 9), some (some 10), some (some 11), some (some 12), none, none, some (some 13), some (some 14), some (some 15), some (some 16), some (some 17), some (some 18), some (some 19), some (some 20), some (some 21), some (some 22), none, some (some 23), some (some 24), none, some (some 25), some (some 26), none, some (some 27), some (some 28), some (some 29), none, some (some 30), none, none, none, some (some 31), some (some 32), some (some 33), some (some 34), some (some 35), some (some 36), some (some 37), some (some 38), some (some 39), some (some 40), some (some 41), some (some 42), some (some 43), some none]),
  .inr (0, 8, 0),
  .inr (0, 8, 0),
  .inr (0, 8, 0),
  .inr (0, 4, 0),
  .inr (0, 4, 0),
  .inr (0, 72, 0),
  .inr (2, 40, 0),
  .inr (0, 6, 0),
  .inr (0, 36, 0),
  .inr (0, 36, 0),
  .inr (0, 6, 0),
  .inr (0, 6, 0),
  .inr (0, 24, 0),
  .inr (0, 24, 0),
  .inr (0, 24, 0),
  .inr (0, 72, 0),
  .inr (0, 72, 0),
  .inr (0, 48, 0),
  .inr (0, 6, 0),
  .inr (0, 4, 0),
  .inr (0, 32, 0),
  .inr (0, 32, 0),
  .inr (0, 6, 0),
  .inr (0, 6, 0),
  .inr (0, 4, 0),
  .inr (0, 64, 0),
  .inr (0, 6, 0),
  .inr (0, 24, 0),
  .inr (0, 4, 0),
  .inr (0, 12, 0),
  .inr (0, 7, 0),
  .inr (0, 7, 0),
  .inr (0, 2, 0),
  .inr (1, 49, 0),
  .inr (1, 49, 0),
  .inr (0, 8, 0),
  .inr (3, 576, 0),
  .inr (0, 24, 0),
  .inr (3, 24, 0),
  .inr (0, 24, 0),
  .inr (0, 24, 0),
  .inr (0, 24, 0),
  .inr (0, 6, 0)]
theorem Zm_5 : zt5 Zm := by
  intro b t n r h
  have h0 : ∀ b, b < 44 → ∀ x, zoa Zm b = some x → x.1 < 5 := by decide +kernel
  by_cases hb : b < 44
  · exact h0 b hb _ h
  · unfold zoa at h
    rw [List.getElem?_eq_none (by show Zm.length ≤ b; have : Zm.length = 44 := rfl; omega)] at h
    cases h
