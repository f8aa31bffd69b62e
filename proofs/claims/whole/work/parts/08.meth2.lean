section ZS3
variable {G : ZG} {own : String} {cc : ByteArray} {nL d : Nat} {K : ZKt} {rt : Option FieldType} {w pc : Nat} {E : List Nat} {lb : Nat → List Nat}
theorem CS.retZ {p1 : Nat} {f : XE Int32} (h : CX Value.int G own cc nL d K (some .boolean) 0 pc [p1] f) (hd : decode cc p1 = .ok (.ireturn, 1)) : CS G own cc nL d K (some .boolean) E lb pc (sRetZ f) := by
  intro p l e s m args below meth c P cl sl C σ N B hf kN kB
  refine h p l e s m args below meth c P cl sl C σ [] _ (Nat.le_refl _) hf (fun x σ' hx q hq1 => ?_)
  cases List.mem_singleton.mp hq1
  intro H locs ls hP hS hL
  exact W.zret C.1 C.2.1 C.2.2.2.2.2.2.2.2.1 (zfits_bool hx.1).1 (fun t ht hW => ⟨some (.int x), σ'.2, rfl, hx.2, by rw [ht]; exact hP, hS.F ht⟩) hS.2.2 hd C.2.2.2.2.2.2.2.1
theorem CS.retR {p1 : Nat} {ty : FieldType} {f : XE Nat} (h : CX Value.ref G own cc nL d K (some (.array ty)) 0 pc [p1] f) (hd : decode cc p1 = .ok (.areturn, 1)) : CS G own cc nL d K (some (.array ty)) E lb pc (sRetR f) := by
  intro p l e s m args below meth c P cl sl C σ N B hf kN kB
  refine h p l e s m args below meth c P cl sl C σ [] _ (Nat.le_refl _) hf (fun x σ' hx q hq1 => ?_)
  cases List.mem_singleton.mp hq1
  intro H locs ls hP hS hL
  exact W.aret C.1 C.2.1 C.2.2.2.2.2.2.2.2.1 (Or.inr ⟨_, rfl⟩) (Or.inr ⟨_, rfl⟩) (fun t ht hW => ⟨some (.ref x), σ'.2, rfl, hx, by rw [ht]; exact hP, hS.F ht⟩) hS.2.2 hd C.2.2.2.2.2.2.2.1
theorem CS.retV (hd : decode cc pc = .ok (.return_, 1)) : CS G own cc nL d K none E lb pc sRetV := by
  intro p l e s m args below meth c P cl sl C σ N B hf kN kB
  intro H locs ls hP hS hL
  exact W.vret C.1 C.2.1 C.2.2.2.2.2.2.2.2.1 (fun t ht hW => ⟨none, σ.2, rfl, hf, by rw [ht]; exact hP, hS.F ht⟩) hS.2.2 hd C.2.2.2.2.2.2.2.1
theorem CS.callS {q1 idx k n : Nat} {as : PE (List Value)} {I : ZI} (ha : CA G own cc nL d K rt 0 pc q1 as) (hI : zinfo k = I) (hs : zCS own idx I n) (hn : ∀ σ, (as σ).2.length = n) (hd : decode cc q1 = .ok (.invokestatic idx, 3)) (hq : q1 + 3 ∈ E) : CS G own cc nL d K rt E lb pc (sCS K k as) := by
  intro p l e s m args below meth c P cl sl C σ N B hf kN kB
  refine ha p l e s m args below meth c P cl sl C σ [] (Nat.le_refl _) hf.1 ?_
  intro H locs ls hP hS hL
  refine z_callS C hI hs hf.2 (hn σ) (Nat.zero_le _) hP hS hL hd (fun v μ' H1 locs1 hv hP1 hS1 => ?_)
  obtain ⟨rfl, hv⟩ := hv
  exact kN _ hv _ hq H1 locs1 ls hP1 hS1 hL
theorem CS.callV {q1 idx ci k n : Nat} {as : PE (List Value)} {I : ZI} (ha : CA G own cc nL d K rt 0 pc q1 as) (hI : zinfo k = I) (hs : zCV own idx ci I n) (hn : ∀ σ, (as σ).2.length = n + 1) (hd : decode cc q1 = .ok (.invokevirtual idx, 3)) (hq : q1 + 3 ∈ E) : CS G own cc nL d K rt E lb pc (sCV G.2.2.2 ci K k as) := by
  intro p l e s m args below meth c P cl sl C σ N B hf kN kB
  refine ha p l e s m args below meth c P cl sl C σ [] (Nat.le_refl _) hf.1 ?_
  intro H locs ls hP hS hL
  obtain ⟨a, r, h1, h2⟩ := zob_some hf.2.1
  have h3 := hf.2.2
  have h4 := hn σ
  rw [h1] at h3 h4
  simp only [h1]
  refine z_callV C hI hs h3 h2 (by simpa using h4) (Nat.zero_le _) hP hS hL hd (fun v μ' H1 locs1 hv hP1 hS1 => ?_)
  obtain ⟨rfl, hv⟩ := hv
  exact kN _ hv _ hq H1 locs1 ls hP1 hS1 hL
theorem zput_ok {z : Bool} {ty : FieldType} (hty : ty = if z = true then .boolean else .int) {x : Int32} (h : zfk z x) : narrow ty (.int x) = .int x ∧ fits ty (.int x) = true := by
  cases z with
  | true => simp at hty; subst hty; exact zfits_bool (h rfl)
  | false => simp at hty; subst hty; exact ⟨rfl, rfl⟩
theorem CS.put {z : Bool} {idx ci k p1 p2 : Nat} {ty : FieldType} {a : PE Nat} {f : XE Int32} (ha : CE Value.ref G own cc nL d K rt 0 pc [p1] a) (h : CX Value.int G own cc nL d K rt 1 p1 [p2] f) (hs : zFp own idx ci k ty) (hty : ty = if z = true then .boolean else .int) (hd : decode cc p2 = .ok (.putfield idx, 3)) (hq : p2 + 3 ∈ E) : CS G own cc nL d K rt E lb pc (sPut G.2.2.2 z ci k a f) := by
  intro p l e s m args below meth c P cl sl C σ N B hf kN kB
  refine ha p l e s m args below meth c P cl sl C σ [] (Nat.le_refl _) hf.1 (fun q hq1 => ?_)
  cases List.mem_singleton.mp hq1
  refine h p l e s m args below meth c P cl sl C σ _ _ (by simp [zcs, Value.category]) hf.2 (fun x σ' hx q hq1 => ?_)
  cases List.mem_singleton.mp hq1
  intro H locs ls hP hS hL
  exact z_put C hP hS hs hx.1.1 hx.1.2 (zput_ok hty hx.2.1).1 (zput_ok hty hx.2.1).2 (fun fs hk => zcell_setI hk x) (zcell_ne _ _) hd (fun H1 locs1 hP1 hS1 => kN _ hx.2.2 _ hq H1 locs1 ls hP1 hS1 hL)
theorem CS.putL {idx ci k p1 p2 : Nat} {a : PE Nat} {f : XE Int64} (ha : CE Value.ref G own cc nL d K rt 0 pc [p1] a) (h : CX Value.long G own cc nL d K rt 1 p1 [p2] f) (hs : zFp own idx ci k .long) (hd : decode cc p2 = .ok (.putfield idx, 3)) (hq : p2 + 3 ∈ E) : CS G own cc nL d K rt E lb pc (sPutL G.2.2.2 ci k a f) := by
  intro p l e s m args below meth c P cl sl C σ N B hf kN kB
  refine ha p l e s m args below meth c P cl sl C σ [] (Nat.le_refl _) hf.1 (fun q hq1 => ?_)
  cases List.mem_singleton.mp hq1
  refine h p l e s m args below meth c P cl sl C σ _ _ (by simp [zcs, Value.category]) hf.2 (fun x σ' hx q hq1 => ?_)
  cases List.mem_singleton.mp hq1
  intro H locs ls hP hS hL
  exact z_put C hP hS hs hx.1.1 hx.1.2 rfl rfl (fun fs hk => zcell_setL hk x) (zcell_neL _ _) hd (fun H1 locs1 hP1 hS1 => kN _ hx.2 _ hq H1 locs1 ls hP1 hS1 hL)
/-- field op= f: the reference is put twice -/
theorem CS.upd {idx ci k p1 p2 : Nat} {a : PE Nat} {f : PE Int32} {g : Int32 → Int32 → Int32} (ha : CE Value.ref G own cc nL d K rt 0 pc [p1] a) (hdup : decode cc p1 = .ok (.dup, 1)) (hg : decode cc (p1 + 1) = .ok (.getfield idx, 3)) (h : CE Value.int G own cc nL d K rt 2 (p1 + 1 + 3) [p2] f) (ho : (g = (fun x y => x + y) ∧ decode cc p2 = .ok (.iadd, 1)) ∨ (g = (fun x y => x - y) ∧ decode cc p2 = .ok (.isub, 1)) ∨ (g = (fun x y => x ||| y) ∧ decode cc p2 = .ok (.ior, 1))) (hs : zFs own idx ci k .int) (hs2 : zFp own idx ci k .int) (hd : decode cc (p2 + 1) = .ok (.putfield idx, 3)) (hq : p2 + 1 + 3 ∈ E) : CS G own cc nL d K rt E lb pc (sUpd G.2.2.2 ci k a g f) := by
  intro p l e s m args below meth c P cl sl C σ N B hf kN kB
  refine ha p l e s m args below meth c P cl sl C σ [] (Nat.le_refl _) hf.1 (fun q hq1 => ?_)
  cases List.mem_singleton.mp hq1
  have h9 : zW G nL d p l e s m args below meth c P cl sl (p1 + 1 + 3) σ [.int (σ.2.1 (a σ).2 k), .ref (a σ).2] := by
    refine h p l e s m args below meth c P cl sl C σ _ (by simp [zcs, Value.category]) hf.2.1 (fun q hq1 => ?_)
    cases List.mem_singleton.mp hq1
    intro H locs ls hP hS hL
    rcases ho with ⟨rfl, ho⟩ | ⟨rfl, ho⟩ | ⟨rfl, ho⟩
    · exact lv_iadd C.1 C.2.1 ho (z_put C hP hS hs2 hf.2.2.1.1 hf.2.2.1.2 rfl rfl (fun fs hk => zcell_setI hk _) (zcell_ne _ _) hd (fun H1 locs1 hP1 hS1 => kN _ hf.2.2.2 _ hq H1 locs1 ls hP1 hS1 hL))
    · exact lv_isub C.1 C.2.1 ho (z_put C hP hS hs2 hf.2.2.1.1 hf.2.2.1.2 rfl rfl (fun fs hk => zcell_setI hk _) (zcell_ne _ _) hd (fun H1 locs1 hP1 hS1 => kN _ hf.2.2.2 _ hq H1 locs1 ls hP1 hS1 hL))
    · exact lv_ior C.1 C.2.1 ho (z_put C hP hS hs2 hf.2.2.1.1 hf.2.2.1.2 rfl rfl (fun fs hk => zcell_setI hk _) (zcell_ne _ _) hd (fun H1 locs1 hP1 hS1 => kN _ hf.2.2.2 _ hq H1 locs1 ls hP1 hS1 hL))
  intro H locs ls hP hS hL
  exact lv_dup C.1 C.2.1 hdup rfl (z_getf C hP hs hf.2.2.1.1 hf.2.2.1.2 hg (h9 H locs ls hP hS hL))
theorem CX.inc {idx ci k p1 : Nat} {a : PE Nat} (ha : CE Value.ref G own cc nL d K rt w pc [p1] a) (h1 : decode cc (p1) = .ok (.dup, 1)) (h2 : decode cc (p1 + 1) = .ok (.getfield idx, 3)) (h3 : decode cc (p1 + 1 + 3) = .ok (.dup_x1, 1)) (h4 : decode cc (p1 + 1 + 3 + 1) = .ok (.iconst 1, 1)) (h5 : decode cc (p1 + 1 + 3 + 1 + 1) = .ok (.iadd, 1)) (hs : zFs own idx ci k .int) (hs2 : zFp own idx ci k .int) (hd : decode cc (p1 + 1 + 3 + 1 + 1 + 1) = .ok (.putfield idx, 3)) (hq : p1 + 1 + 3 + 1 + 1 + 1 + 3 ∈ E) : CX Value.int G own cc nL d K rt w pc E (xInc G.2.2.2 ci k a) := by
  intro p l e s m args below meth c P cl sl C σ rest Q hw hf kk
  refine ha p l e s m args below meth c P cl sl C σ rest hw hf.1 (fun q hq1 => ?_)
  cases List.mem_singleton.mp hq1
  intro H locs ls hP hS hL
  refine lv_dup C.1 C.2.1 h1 rfl (z_getf C hP hs hf.2.1.1 hf.2.1.2 h2 (lv_dup_x1 C.1 C.2.1 h3 rfl rfl (lv_iconst C.1 C.2.1 h4 (v := 1) (by decide) (lv_iadd C.1 C.2.1 h5 ?_))))
  exact z_put C hP hS hs2 hf.2.1.1 hf.2.1.2 rfl rfl (fun fs hk => zcell_setI hk _) (zcell_ne _ _) hd (fun H1 locs1 hP1 hS1 => kk _ _ hf.2.2 _ hq H1 locs1 ls hP1 hS1 hL)
theorem CX.pre {idx ci k p1 : Nat} {a : PE Nat} (ha : CE Value.ref G own cc nL d K rt w pc [p1] a) (h1 : decode cc (p1) = .ok (.dup, 1)) (h2 : decode cc (p1 + 1) = .ok (.getfield idx, 3)) (h3 : decode cc (p1 + 1 + 3) = .ok (.iconst 1, 1)) (h4 : decode cc (p1 + 1 + 3 + 1) = .ok (.iadd, 1)) (h5 : decode cc (p1 + 1 + 3 + 1 + 1) = .ok (.dup_x1, 1)) (hs : zFs own idx ci k .int) (hs2 : zFp own idx ci k .int) (hd : decode cc (p1 + 1 + 3 + 1 + 1 + 1) = .ok (.putfield idx, 3)) (hq : p1 + 1 + 3 + 1 + 1 + 1 + 3 ∈ E) : CX Value.int G own cc nL d K rt w pc E (xPre G.2.2.2 ci k a) := by
  intro p l e s m args below meth c P cl sl C σ rest Q hw hf kk
  refine ha p l e s m args below meth c P cl sl C σ rest hw hf.1 (fun q hq1 => ?_)
  cases List.mem_singleton.mp hq1
  intro H locs ls hP hS hL
  refine lv_dup C.1 C.2.1 h1 rfl (z_getf C hP hs hf.2.1.1 hf.2.1.2 h2 (lv_iconst C.1 C.2.1 h3 (v := 1) (by decide) (lv_iadd C.1 C.2.1 h4 (lv_dup_x1 C.1 C.2.1 h5 rfl rfl ?_))))
  exact z_put C hP hS hs2 hf.2.1.1 hf.2.1.2 rfl rfl (fun fs hk => zcell_setI hk _) (zcell_ne _ _) hd (fun H1 locs1 hP1 hS1 => kk _ _ hf.2.2 _ hq H1 locs1 ls hP1 hS1 hL)
theorem CS.st {t p1 p2 p3 : Nat} {a : PE Nat} {i : XE Int32} {f : XE Int32} (ha : CE Value.ref G own cc nL d K rt 0 pc [p1] a) (hi : CX Value.int G own cc nL d K rt 1 p1 [p2] i) (h : CX Value.int G own cc nL d K rt 2 p2 [p3] f) (hd : (t = 0 ∧ decode cc p3 = .ok (.iastore, 1)) ∨ ((t = 2 ∨ t = 3) ∧ decode cc p3 = .ok (.bastore, 1))) (hq : p3 + 1 ∈ E) : CS G own cc nL d K rt E lb pc (sSt G.2.2.2 t a i f) := by
  intro p l e s m args below meth c P cl sl C σ N B hf kN kB
  refine ha p l e s m args below meth c P cl sl C σ [] (Nat.le_refl _) hf.1 (fun q hq1 => ?_)
  cases List.mem_singleton.mp hq1
  refine hi p l e s m args below meth c P cl sl C σ _ _ (by simp [zcs, Value.category]) hf.2 (fun j σ1 hj q hq1 => ?_)
  cases List.mem_singleton.mp hq1
  refine h p l e s m args below meth c P cl sl C σ1 _ _ (by simp [zcs, Value.category]) hj (fun x σ' hx q hq1 => ?_)
  cases List.mem_singleton.mp hq1
  intro H locs ls hP hS hL
  exact z_ast C hP hS hx.1 hd (fun H1 locs1 hP1 hS1 => kN _ hx.2 _ hq H1 locs1 ls hP1 hS1 hL)
theorem CS.stL {p1 p2 p3 : Nat} {a : PE Nat} {i : PE Int32} {f : PE Int64} (ha : CE Value.ref G own cc nL d K rt 0 pc [p1] a) (hi : CE Value.int G own cc nL d K rt 1 p1 [p2] i) (h : CE Value.long G own cc nL d K rt 2 p2 [p3] f) (hd : decode cc p3 = .ok (.lastore, 1)) (hq : p3 + 1 ∈ E) : CS G own cc nL d K rt E lb pc (sStL G.2.2.2 a i f) := by
  intro p l e s m args below meth c P cl sl C σ N B hf kN kB
  refine ha p l e s m args below meth c P cl sl C σ [] (Nat.le_refl _) hf.1 (fun q hq1 => ?_)
  cases List.mem_singleton.mp hq1
  refine hi p l e s m args below meth c P cl sl C σ _ (by simp [zcs, Value.category]) hf.2.1 (fun q hq1 => ?_)
  cases List.mem_singleton.mp hq1
  refine h p l e s m args below meth c P cl sl C σ _ (by simp [zcs, Value.category]) hf.2.2.1 (fun q hq1 => ?_)
  cases List.mem_singleton.mp hq1
  intro H locs ls hP hS hL
  exact z_astL C hP hS hf.2.2.2.1 hd (fun H1 locs1 hP1 hS1 => kN _ hf.2.2.2.2 _ hq H1 locs1 ls hP1 hS1 hL)
theorem CS.stU {p1 p2 p3 : Nat} {a : PE Nat} {i : PE Int32} {f : PE Int32} {g : Int32 → Int32 → Int32} (ha : CE Value.ref G own cc nL d K rt 0 pc [p1] a) (hi : CE Value.int G own cc nL d K rt 1 p1 [p2] i) (h2 : decode cc p2 = .ok (.dup2, 1)) (h3 : decode cc (p2 + 1) = .ok (.iaload, 1)) (h : CE Value.int G own cc nL d K rt 3 (p2 + 1 + 1) [p3] f) (ho : (g = (fun x y => x + y) ∧ decode cc p3 = .ok (.iadd, 1)) ∨ (g = (fun x y => x - y) ∧ decode cc p3 = .ok (.isub, 1)) ∨ (g = (fun x y => x ||| y) ∧ decode cc p3 = .ok (.ior, 1))) (hd : decode cc (p3 + 1) = .ok (.iastore, 1)) (hq : p3 + 1 + 1 ∈ E) : CS G own cc nL d K rt E lb pc (sStU G.2.2.2 a i g f) := by
  intro p l e s m args below meth c P cl sl C σ N B hf kN kB
  refine ha p l e s m args below meth c P cl sl C σ [] (Nat.le_refl _) hf.1 (fun q hq1 => ?_)
  cases List.mem_singleton.mp hq1
  refine hi p l e s m args below meth c P cl sl C σ _ (by simp [zcs, Value.category]) hf.2.1 (fun q hq1 => ?_)
  cases List.mem_singleton.mp hq1
  have hin := hf.2.2.2.1
  have h9 : zW G nL d p l e s m args below meth c P cl sl (p2 + 1 + 1) σ [.int (σ.2.1 (a σ).2 (i σ).2.toNatClampNeg), .int (i σ).2, .ref (a σ).2] := by
    refine h p l e s m args below meth c P cl sl C σ _ (by simp [zcs, Value.category]) hf.2.2.1 (fun q hq1 => ?_)
    cases List.mem_singleton.mp hq1
    intro H locs ls hP hS hL
    rcases ho with ⟨rfl, ho⟩ | ⟨rfl, ho⟩ | ⟨rfl, ho⟩
    · exact lv_iadd C.1 C.2.1 ho (z_ast (t := 0) C hP hS hin (Or.inl ⟨rfl, hd⟩) (fun H1 locs1 hP1 hS1 => kN _ hf.2.2.2.2 _ hq H1 locs1 ls hP1 hS1 hL))
    · exact lv_isub C.1 C.2.1 ho (z_ast (t := 0) C hP hS hin (Or.inl ⟨rfl, hd⟩) (fun H1 locs1 hP1 hS1 => kN _ hf.2.2.2.2 _ hq H1 locs1 ls hP1 hS1 hL))
    · exact lv_ior C.1 C.2.1 ho (z_ast (t := 0) C hP hS hin (Or.inl ⟨rfl, hd⟩) (fun H1 locs1 hP1 hS1 => kN _ hf.2.2.2.2 _ hq H1 locs1 ls hP1 hS1 hL))
  intro H locs ls hP hS hL
  obtain ⟨n, r, g1, g2, -⟩ := zin_some hin
  have hat := zw_at (μ := σ.2) g1
  exact lv_dup2_11 C.1 C.2.1 h2 rfl rfl (va_iald C.1 C.2.1 C.2.2.2.2.2.1 hP _ 0 hat rfl g2 h3 (h9 H locs ls hP hS hL))
theorem CS.stUL {p1 p2 p3 : Nat} {a : PE Nat} {i : PE Int32} {f : PE Int64} {g : Int64 → Int64 → Int64} (ha : CE Value.ref G own cc nL d K rt 0 pc [p1] a) (hi : CE Value.int G own cc nL d K rt 1 p1 [p2] i) (h2 : decode cc p2 = .ok (.dup2, 1)) (h3 : decode cc (p2 + 1) = .ok (.laload, 1)) (h : CE Value.long G own cc nL d K rt 4 (p2 + 1 + 1) [p3] f) (hg : g = (fun x y => x + y)) (ho : decode cc p3 = .ok (.ladd, 1)) (hd : decode cc (p3 + 1) = .ok (.lastore, 1)) (hq : p3 + 1 + 1 ∈ E) : CS G own cc nL d K rt E lb pc (sStUL G.2.2.2 a i g f) := by
  intro p l e s m args below meth c P cl sl C σ N B hf kN kB
  refine ha p l e s m args below meth c P cl sl C σ [] (Nat.le_refl _) hf.1 (fun q hq1 => ?_)
  cases List.mem_singleton.mp hq1
  refine hi p l e s m args below meth c P cl sl C σ _ (by simp [zcs, Value.category]) hf.2.1 (fun q hq1 => ?_)
  cases List.mem_singleton.mp hq1
  have hin := hf.2.2.2.1
  have h9 : zW G nL d p l e s m args below meth c P cl sl (p2 + 1 + 1) σ [.long (σ.2.2 (a σ).2 (i σ).2.toNatClampNeg), .int (i σ).2, .ref (a σ).2] := by
    refine h p l e s m args below meth c P cl sl C σ _ (by simp [zcs, Value.category]) hf.2.2.1 (fun q hq1 => ?_)
    cases List.mem_singleton.mp hq1
    intro H locs ls hP hS hL
    subst hg
    exact lv_ladd C.1 C.2.1 ho (z_astL C hP hS hin hd (fun H1 locs1 hP1 hS1 => kN _ hf.2.2.2.2 _ hq H1 locs1 ls hP1 hS1 hL))
  intro H locs ls hP hS hL
  obtain ⟨n, r, g1, g2, -⟩ := zin_some hin
  have hat := zw_at (μ := σ.2) g1
  exact lv_dup2_11 C.1 C.2.1 h2 rfl rfl (va_lald C.1 C.2.1 C.2.2.2.2.2.1 hP _ 1 hat rfl g2 h3 (h9 H locs ls hP hS hL))
/-- the arms of a switch -/
def zarm (G : ZG) (own : String) (cc : ByteArray) (nL d : Nat) (K : ZKt) (rt : Option FieldType) (E : List Nat) (lb : Nat → List Nat) (pc : Nat) (lo : Int) (offs : Array Int) : Nat → List (Int32 × ZSt) → Prop
  | _, [] => True
  | j, (x, S) :: r => x.toInt = lo + (j : Int) ∧ (∃ (off : Int) (q : Nat), offs[j]? = some off ∧ (pc : Int) + off = (q : Int) ∧ CS G own cc nL d K rt E lb q S) ∧ zarm G own cc nL d K rt E lb pc lo offs (j + 1) r
theorem CS.sw {p1 qd len : Nat} {dflt lo hi : Int} {offs : Array Int} {f : XE Int32} {arms : List (Int32 × ZSt)} {D : ZSt} (h : CX Value.int G own cc nL d K rt 0 pc [p1] f) (hd : decode cc p1 = .ok (.tableswitch dflt lo hi offs, len)) (hn : lo + (arms.length : Int) = hi + 1) (ha : zarm G own cc nL d K rt E lb p1 lo offs 0 arms) (ht : (p1 : Int) + dflt = (qd : Int)) (hD : CS G own cc nL d K rt E lb qd D) : CS G own cc nL d K rt E lb pc (sSw f arms D) := by
  intro p l e s m args below meth c P cl sl C σ N B hf kN kB
  refine h p l e s m args below meth c P cl sl C σ [] _ (Nat.le_refl _) hf (fun x σ' hx q hq1 => ?_)
  cases List.mem_singleton.mp hq1
  have key : ∀ (arms : List (Int32 × ZSt)) (j : Nat), zarm G own cc nL d K rt E lb p1 lo offs j arms → lo + (j : Int) + (arms.length : Int) = hi + 1 → (x.toInt < lo ∨ lo + (j : Int) ≤ x.toInt) → zsw arms D x σ' N P B → zW G nL d p l e s m args below meth c P cl sl p1 σ' [.int x] := by
    intro arms
    induction arms with
    | nil =>
      intro j _ h1 h2 h3 H locs ls hP hS hL
      simp at h1
      exact lv_tableOut C.1 C.2.1 hd (by omega) ht (hD p l e s m args below meth c P cl sl C σ' N B h3 kN kB H locs ls hP hS hL)
    | cons y r ih =>
      obtain ⟨y, S⟩ := y
      intro j ⟨g1, ⟨off, q, g2, g3, g4⟩, g5⟩ h1 h2 h3
      simp only [List.length_cons] at h1
      by_cases hxy : x = y
      · subst hxy
        intro H locs ls hP hS hL
        exact lv_tableIn C.1 C.2.1 hd (by omega) (by omega) (off := off) (by rw [g1, show (lo + (j : Int) - lo).toNat = j by omega]; exact g2) g3 (g4 p l e s m args below meth c P cl sl C σ' N B (h3.1 rfl) kN kB H locs ls hP hS hL)
      · have h4 : x.toInt ≠ lo + (j : Int) := fun z => hxy (Int32.toInt_inj.mp (z.trans g1.symm))
        exact ih (j + 1) g5 (by omega) (by omega) (h3.2 hxy)
  exact key arms 0 ha (by omega) (by omega) hx
theorem zlen_some {Z : List ZD} {t a : Nat} {n : Int32} (h : zlen Z t a n) : ¬ n < 0 ∧ ∃ m r, Z[a]? = some (.inr (t, m, r)) ∧ n.toNatClampNeg ≤ m := by
  obtain ⟨h0, h⟩ := h
  refine ⟨h0, ?_⟩
  cases hz : zoa Z a with
  | none => rw [hz] at h; exact h.elim
  | some x =>
    obtain ⟨t', m, r⟩ := x
    rw [hz] at h
    obtain ⟨rfl, h2⟩ := h
    refine ⟨m, r, ?_, h2⟩
    unfold zoa at hz
    cases hx : Z[a]? with
    | none => rw [hx] at hz; cases hz
    | some y =>
      rw [hx] at hz
      cases y with
      | inl y => cases hz
      | inr y => cases hz; rfl
/-- the words of System.arraycopy -/
def zSy (own : String) (idx : Nat) : Prop := Cond.methodLink own idx arraycopyName ∈ lw_tbl ∧ Cond.native arraycopyName ∈ lw_tbl ∧ Cond.static arraycopyName ∈ lw_tbl ∧ Cond.initialized "java/lang/System" ∈ lw_tbl
theorem znat : nativeFrameWords "java/lang/System" "arraycopy" 5 ≤ 20 := by decide
theorem CS.cpy {idx p1 p2 p3 : Nat} {a b : PE Nat} {n : PE Int32} (ha : CE Value.ref G own cc nL d K rt 0 pc [p1] a) (h1 : decode cc p1 = .ok (.iconst 0, 1)) (hb : CE Value.ref G own cc nL d K rt 2 (p1 + 1) [p2] b) (h2 : decode cc p2 = .ok (.iconst 0, 1)) (hn : CE Value.int G own cc nL d K rt 4 (p2 + 1) [p3] n) (hs : zSy own idx) (hd : decode cc p3 = .ok (.invokestatic idx, 3)) (hq : p3 + 3 ∈ E) : CS G own cc nL d K rt E lb pc (sCpy G.2.2.2 a b n) := by
  intro p l e s m args below meth c P cl sl C σ N B hf kN kB
  refine ha p l e s m args below meth c P cl sl C σ [] (Nat.le_refl _) hf.1 (fun q hq1 => ?_)
  cases List.mem_singleton.mp hq1
  have hk2 : zW G nL d p l e s m args below meth c P cl sl (p1 + 1) σ [.int 0, .ref (a σ).2] := by
    refine hb p l e s m args below meth c P cl sl C σ _ (by simp [zcs, Value.category]) hf.2.1 (fun q hq1 => ?_)
    cases List.mem_singleton.mp hq1
    have hk3 : zW G nL d p l e s m args below meth c P cl sl (p2 + 1) σ [.int 0, .ref (b σ).2, .int 0, .ref (a σ).2] := by
      refine hn p l e s m args below meth c P cl sl C σ _ (by simp [zcs, Value.category]) hf.2.2.1 (fun q hq1 => ?_)
      cases List.mem_singleton.mp hq1
      intro H locs ls hP hS hL
      obtain ⟨hn0, n0, r0, e0, l0⟩ := zlen_some hf.2.2.2.1
      obtain ⟨-, n1, r1, e1, l1⟩ := zlen_some hf.2.2.2.2.1
      have hat0 := zw_at (μ := σ.2) e0
      have hat1 := zw_at (μ := σ.2) e1
      have gd : ∀ {w : Cond}, w ∈ lw_tbl → goodWord w = true → w.before args s = true := fun h1 h2 => C.2.2.2.2.1 _ (z_gd h1 h2)
      refine va_copyi (rest := []) C.1 C.2.1 (C.2.2.1.trans hL.1.symm) C.2.2.2.1 (gd hs.1 rfl) (gd hs.2.1 rfl) (gd hs.2.2.1 rfl) (gd hs.2.2.2 rfl) C.2.2.2.2.2.1 hP (zw_D G σ.2) hS _ _ 0 0 hat0 hat1 rfl rfl rfl (by decide) (by decide) hn0 (by simpa using l0) (by simpa using l1) (fun _ _ => rfl) (Nat.succ_le_succ (Nat.zero_le _)) (by have := znat; show 0 + _ ≤ 40 * (d + 1); omega) hd (fun H1 locs1 hP1 _ hS1 => ?_)
      have hz := zw_set (G := G) (μ := σ.2) (μ' := zcpy σ.2 (a σ).2 (b σ).2 (n σ).2.toNatClampNeg) (e := .inl (G.2.1 0, n1, .inl (va_cpy (σ.2.1 (a σ).2) (σ.2.1 (b σ).2) (Int32.toNatClampNeg 0) (Int32.toNatClampNeg 0) (n σ).2.toNatClampNeg))) e1 (by simp only [zcell, zar, zcpy, if_true]; rfl) (fun a' d' h => zcell_off (μ := σ.2) (μ' := zcpy σ.2 (a σ).2 (b σ).2 (n σ).2.toNatClampNeg) (by simp [zcpy, h]) rfl d')
      rw [hz] at hP1
      exact kN _ hf.2.2.2.2.2 _ hq H1 locs1 ls hP1 hS1 hL
    intro H locs ls hP hS hL
    exact lv_iconst C.1 C.2.1 h2 (v := 0) (by decide) (hk3 H locs ls hP hS hL)
  intro H locs ls hP hS hL
  exact lv_iconst C.1 C.2.1 h1 (v := 0) (by decide) (hk2 H locs ls hP hS hL)
theorem CS.cpyL {idx p1 p2 p3 : Nat} {a b : PE Nat} {n : PE Int32} (ha : CE Value.ref G own cc nL d K rt 0 pc [p1] a) (h1 : decode cc p1 = .ok (.iconst 0, 1)) (hb : CE Value.ref G own cc nL d K rt 2 (p1 + 1) [p2] b) (h2 : decode cc p2 = .ok (.iconst 0, 1)) (hn : CE Value.int G own cc nL d K rt 4 (p2 + 1) [p3] n) (hs : zSy own idx) (hd : decode cc p3 = .ok (.invokestatic idx, 3)) (hq : p3 + 3 ∈ E) : CS G own cc nL d K rt E lb pc (sCpyL G.2.2.2 a b n) := by
  intro p l e s m args below meth c P cl sl C σ N B hf kN kB
  refine ha p l e s m args below meth c P cl sl C σ [] (Nat.le_refl _) hf.1 (fun q hq1 => ?_)
  cases List.mem_singleton.mp hq1
  have hk2 : zW G nL d p l e s m args below meth c P cl sl (p1 + 1) σ [.int 0, .ref (a σ).2] := by
    refine hb p l e s m args below meth c P cl sl C σ _ (by simp [zcs, Value.category]) hf.2.1 (fun q hq1 => ?_)
    cases List.mem_singleton.mp hq1
    have hk3 : zW G nL d p l e s m args below meth c P cl sl (p2 + 1) σ [.int 0, .ref (b σ).2, .int 0, .ref (a σ).2] := by
      refine hn p l e s m args below meth c P cl sl C σ _ (by simp [zcs, Value.category]) hf.2.2.1 (fun q hq1 => ?_)
      cases List.mem_singleton.mp hq1
      intro H locs ls hP hS hL
      obtain ⟨hn0, n0, r0, e0, l0⟩ := zlen_some hf.2.2.2.1
      obtain ⟨-, n1, r1, e1, l1⟩ := zlen_some hf.2.2.2.2.1
      have hat0 := zw_at (μ := σ.2) e0
      have hat1 := zw_at (μ := σ.2) e1
      have gd : ∀ {w : Cond}, w ∈ lw_tbl → goodWord w = true → w.before args s = true := fun h1 h2 => C.2.2.2.2.1 _ (z_gd h1 h2)
      refine va_copyl (rest := []) C.1 C.2.1 (C.2.2.1.trans hL.1.symm) C.2.2.2.1 (gd hs.1 rfl) (gd hs.2.1 rfl) (gd hs.2.2.1 rfl) (gd hs.2.2.2 rfl) C.2.2.2.2.2.1 hP (zw_D G σ.2) hS _ _ 1 1 hat0 hat1 rfl rfl rfl (by decide) (by decide) hn0 (by simpa using l0) (by simpa using l1) (fun _ _ => rfl) (Nat.succ_le_succ (Nat.zero_le _)) (by have := znat; show 0 + _ ≤ 40 * (d + 1); omega) hd (fun H1 locs1 hP1 _ hS1 => ?_)
      have hz := zw_set (G := G) (μ := σ.2) (μ' := zcpyL σ.2 (a σ).2 (b σ).2 (n σ).2.toNatClampNeg) (e := .inl (G.2.1 1, n1, .inr (.inl (va_cpy (σ.2.2 (a σ).2) (σ.2.2 (b σ).2) (Int32.toNatClampNeg 0) (Int32.toNatClampNeg 0) (n σ).2.toNatClampNeg)))) e1 (by simp only [zcell, zar, zcpyL, if_true]; rfl) (fun a' d' h => zcell_off (μ := σ.2) (μ' := zcpyL σ.2 (a σ).2 (b σ).2 (n σ).2.toNatClampNeg) rfl (by simp [zcpyL, h]) d')
      rw [hz] at hP1
      exact kN _ hf.2.2.2.2.2 _ hq H1 locs1 ls hP1 hS1 hL
    intro H locs ls hP hS hL
    exact lv_iconst C.1 C.2.1 h2 (v := 0) (by decide) (hk3 H locs ls hP hS hL)
  intro H locs ls hP hS hL
  exact lv_iconst C.1 C.2.1 h1 (v := 0) (by decide) (hk2 H locs ls hP hS hL)
end ZS3
theorem zen_at {b : Nat} : ∀ (vs : List Value) (n i : Nat) (v : Value), (zen vs)[i]? = some v → v = .null ∨ (n + i, zsh b v) ∈ lv_args n (vs.map (zsh b)) := by
  intro vs
  induction vs with
  | nil => intro n i v h; cases i <;> cases h
  | cons u vs ih =>
    intro n i v h
    have one : ∀ (hu : ¬ u.category = 2) (hz : zen (u :: vs) = u :: zen vs), v = .null ∨ (n + i, zsh b v) ∈ lv_args n ((u :: vs).map (zsh b)) := by
      intro hu hz
      rw [hz] at h
      have hl : lv_args n ((u :: vs).map (zsh b)) = (n, zsh b u) :: lv_args (n + 1) (vs.map (zsh b)) := by
        simp [lv_args, zsh_cat, hu]
      rw [hl]
      cases i with
      | zero => simp at h; subst h; exact Or.inr List.mem_cons_self
      | succ i =>
        rcases ih (n + 1) i v (by simpa using h) with h1 | h1
        · exact Or.inl h1
        · exact Or.inr (List.mem_cons_of_mem _ (by rw [show n + (i + 1) = n + 1 + i by omega]; exact h1))
    cases u with
    | long x =>
      have hl : lv_args n ((Value.long x :: vs).map (zsh b)) = (n, .long x) :: lv_args (n + 2) (vs.map (zsh b)) := by
        simp [lv_args, zsh, Value.category]
      rw [hl]
      match i, h with
      | 0, h => cases h; exact Or.inr List.mem_cons_self
      | 1, h => cases h; exact Or.inl rfl
      | i + 2, h =>
        rcases ih (n + 2) i v h with h1 | h1
        · exact Or.inl h1
        · exact Or.inr (List.mem_cons_of_mem _ (by rw [show n + (i + 2) = n + 2 + i by omega]; exact h1))
    | double x =>
      have hl : lv_args n ((Value.double x :: vs).map (zsh b)) = (n, .double x) :: lv_args (n + 2) (vs.map (zsh b)) := by
        simp [lv_args, zsh, Value.category]
      rw [hl]
      match i, h with
      | 0, h => cases h; exact Or.inr List.mem_cons_self
      | 1, h => cases h; exact Or.inl rfl
      | i + 2, h =>
        rcases ih (n + 2) i v h with h1 | h1
        · exact Or.inl h1
        · exact Or.inr (List.mem_cons_of_mem _ (by rw [show n + (i + 2) = n + 2 + i by omega]; exact h1))
    | _ => exact one (by simp [Value.category]) rfl
theorem zen_two : ∀ (vs : List Value) (i : Nat) (v : Value), (zen vs)[i]? = some v → v.category = 2 → (zen vs)[i + 1]? = some .null := by
  intro vs
  induction vs with
  | nil => intro i v h; cases i <;> cases h
  | cons u vs ih =>
    intro i v h hc
    have one : ∀ (hu : ¬ u.category = 2) (hz : zen (u :: vs) = u :: zen vs), (zen (u :: vs))[i + 1]? = some .null := by
      intro hu hz
      rw [hz] at h ⊢
      cases i with
      | zero => simp at h; subst h; exact absurd hc hu
      | succ i => exact ih i v (by simpa using h) hc
    cases u with
    | long x =>
      match i, h with
      | 0, h => rfl
      | 1, h => cases h; cases hc
      | i + 2, h => exact ih i v h hc
    | double x =>
      match i, h with
      | 0, h => rfl
      | 1, h => cases h; cases hc
      | i + 2, h => exact ih i v h hc
    | _ => exact one (by simp [Value.category]) rfl
/-- A METHOD'S CONTRACT OUT OF ITS BODY -/
theorem ZT.of {l : Launch} {G : ZG} {d : Nat} {K : ZKt} {I : ZI} {as : List Value} {μ : ZM} {P : Option Value → ZM → Prop} {lb : Nat → List Nat} {S : ZSt} (hK : ∀ k as μ P, K k as μ P → ZT l G d (zinfo k) as μ P) (hy : plainName I.1.cls = true) (hc : CS G I.1.cls I.2.1 I.2.2.1 d K I.2.2.2 [] lb 0 S) (hn : (lg_sl (as.map (zsh G.2.2.1))).length ≤ I.2.2.1)
    (hS : S (zen as, μ) (fun _ => False) P (fun _ _ => False)) : ZT l G (d + 1) I as μ P := by
  refine Met.ofW (cc := I.2.1) (maxL := I.2.2.1) (ret := I.2.2.2) hy rfl ?_
  intro p e s m args below meth c s₁ B hml hv
  obtain ⟨rfl, hP, hK1, hN⟩ := hv
  have hts := atoms_spec (ws := zWs I) B.pre
  have C : zCtx G I.1.cls I.2.1 I.2.2.1 d K I.2.2.2 p l s m (as.map (zsh G.2.2.1)).toArray meth c := ⟨B.exec, B.bytes, hml, findClass_of_methodNamed B.named, fun w hw => hts w (List.mem_cons_of_mem _ hw), hK1, hN, B.notSynchronized, B.returns, hK⟩
  have hl := lv_entry (as.map (zsh G.2.2.1)) hn
  rw [lg_entry_eq]
  generalize (lg_sl (as.map (zsh G.2.2.1)) ++ List.replicate (I.2.2.1 - (lg_sl (as.map (zsh G.2.2.1))).length) Slot.unset).toArray = ls at hl ⊢
  have hL : zL G.2.2.1 ls I.2.2.1 (zen as) := ⟨hl.1, hl.2.1, fun i v h => by
    rcases zen_at (b := G.2.2.1) as 0 i v h with h1 | h1
    · exact Or.inl h1
    · exact Or.inr (by simpa using hl.2.2 _ h1), zen_two as⟩
  exact hc p l e s m _ below meth c P 0 0 C (zen as, μ) _ _ hS (fun _ h => h.elim) (fun _ _ h => h.elim) s.heap [] ls hP va_S.rf hL
