/-! THE WALK: declarations, stores, returns, calls; a method's contract out of its body -/
/-- a field that may be written -/
def zFp (own : String) (idx ci k : Nat) (ty : FieldType) : Prop := ∃ C T N, zCls ci C T N ∧ k < N ∧ parseFieldDescriptor (T k).2.2.1 = some ty ∧ (Cond.fieldLink own idx C (T k).2.1 (T k).2.2.1 ∈ lw_tbl ∨ ∃ host, Cond.fieldLinkNest own idx C (T k).2.1 (T k).2.2.1 host ∈ lw_tbl) ∧ (T k).1 = C ∧ (T k).2.2.2 = false
theorem zcell_setI {G : ZG} {μ : ZM} {a ci k : Nat} {fs : List (Option (Option Nat))} (hk : fs[k]? = some none) (x : Int32) : zcell G (zset μ a k x) a (.inl (ci, fs)) = .inr (ci, (fs.mapIdx (zfv G.2.2.1 μ a)).set k (.int x)) := by
  simp only [zcell]
  congr 2
  apply List.ext_getElem?
  intro i
  by_cases hi : k = i
  · subst hi
    have hl : k < (fs.mapIdx (zfv G.2.2.1 μ a)).length := by
      rw [List.length_mapIdx]; exact (List.getElem?_eq_some_iff.mp hk).1
    rw [List.getElem?_set_self hl, List.getElem?_mapIdx, hk]
    simp [zfv, zset, upd]
  · rw [List.getElem?_set_ne hi, List.getElem?_mapIdx, List.getElem?_mapIdx]
    cases fs[i]? with
    | none => rfl
    | some q =>
      cases q with
      | none => simp [zfv, zset, upd, Ne.symm hi]
      | some q => cases q <;> rfl
theorem zcell_setL {G : ZG} {μ : ZM} {a ci k : Nat} {fs : List (Option (Option Nat))} (hk : fs[k]? = some (some none)) (x : Int64) : zcell G (zsetL μ a k x) a (.inl (ci, fs)) = .inr (ci, (fs.mapIdx (zfv G.2.2.1 μ a)).set k (.long x)) := by
  simp only [zcell]
  congr 2
  apply List.ext_getElem?
  intro i
  by_cases hi : k = i
  · subst hi
    have hl : k < (fs.mapIdx (zfv G.2.2.1 μ a)).length := by
      rw [List.length_mapIdx]; exact (List.getElem?_eq_some_iff.mp hk).1
    rw [List.getElem?_set_self hl, List.getElem?_mapIdx, hk]
    simp [zfv, zsetL, vp_updL]
  · rw [List.getElem?_set_ne hi, List.getElem?_mapIdx, List.getElem?_mapIdx]
    cases fs[i]? with
    | none => rfl
    | some q =>
      cases q with
      | none => rfl
      | some q =>
        cases q with
        | none => simp [zfv, zsetL, vp_updL, Ne.symm hi]
        | some r => rfl
theorem zcell_ne {G : ZG} (μ : ZM) {a k : Nat} (x : Int32) : ∀ a' d', a' ≠ a → zcell G (zset μ a k x) a' d' = zcell G μ a' d' := fun a' d' h => zcell_off (zset_ne μ k x h) rfl d'
theorem zcell_neL {G : ZG} (μ : ZM) {a k : Nat} (x : Int64) : ∀ a' d', a' ≠ a → zcell G (zsetL μ a k x) a' d' = zcell G μ a' d' := fun a' d' h => zcell_off (μ := μ) (μ' := zsetL μ a k x) rfl (zsetL_ne μ k x h) d'
theorem zfits_bool {x : Int32} (h : x = 0 ∨ x = 1) : narrow .boolean (.int x) = .int x ∧ fits .boolean (.int x) = true := by
  rcases h with rfl | rfl <;> exact ⟨by decide, by decide⟩
section ZP
variable {p : Program} {l : Launch} {e : Env} {s : State} {m : MethodId} {args : Array Value} {below : List Frame} {meth : Method} {c : Code} {H : Heap} {locs : List Loc} {Q : State → Prop} {cl sl : Nat}
variable {G : ZG} {own : String} {cc : ByteArray} {nL d : Nat} {K : ZKt} {rt : Option FieldType} {μ : ZM} {pc : Nat} {ls : Array Slot} {rest : List Value}
theorem z_put (C : zCtx G own cc nL d K rt p l s m args meth c) (hP : va_P G.1 vwCl (zw G μ) H) (hS : va_S (zA G) s.heap H locs) {idx ci k a : Nat} {ty : FieldType} {q : Option (Option Nat)} {v : Value} {μ' : ZM} (hs : zFp own idx ci k ty) (hc : zoc G.2.2.2 a = some ci) (hf : zof G.2.2.2 a k = some q) (hn : narrow ty v = v) (hfit : fits ty v = true)
    (hμ : ∀ fs, fs[k]? = some q → zcell G μ' a (.inl (ci, fs)) = .inr (ci, (fs.mapIdx (zfv G.2.2.1 μ a)).set k v)) (hne : ∀ a' d', a' ≠ a → zcell G μ' a' d' = zcell G μ a' d') (hd : decode cc pc = .ok (.putfield idx, 3))
    (kk : ∀ (H1 : Heap) (locs1 : List Loc), va_P G.1 vwCl (zw G μ') H1 → va_S (zA G) s.heap H1 locs1 → W p l e (zrmC (d + 1) cl sl) s m args below meth c H1 locs1 cl sl Q (F0 m (pc + 3) ls rest)) : W p l e (zrmC (d + 1) cl sl) s m args below meth c H locs cl sl Q (F0 m pc ls (v :: .ref (G.2.2.1 + a) :: rest)) := by
  obtain ⟨CN, T, N, ⟨h1, h2, h3, ty0, h4⟩, hk, hty, hlk, hown, hfin⟩ := hs
  obtain ⟨fs, g1, g2⟩ := zof_some hc hf
  have hat := zw_at (μ := μ) g1
  have hl : k < (fs.mapIdx (zfv G.2.2.1 μ a)).length := by
    rw [List.length_mapIdx]; exact (List.getElem?_eq_some_iff.mp g2).1
  have hset : (zw G μ).set a (G.2.2.1 + a, .inr (ci, (fs.mapIdx (zfv G.2.2.1 μ a)).set k v)) = zw G μ' := zw_set g1 (hμ fs g2) hne
  rcases hlk with hlk | ⟨host, hlk⟩
  · exact va_put (D := G.1) (Ts := gdT) (T := T) (C := CN) (N := N) C.1 C.2.1 C.2.2.2.2.1 h2 ty0 h4 h3 C.2.2.2.1 C.2.2.2.2.2.1 hP (zw_D G μ) hS a hat h1 k hk (C.2.2.2.2.1 _ (z_gd hlk rfl)) (fun x h => by rw [hown] at h; exact h) hfin hty hn hfit hl hd (fun H1 locs1 hP1 _ hS1 => kk H1 locs1 (by rw [hset] at hP1; exact hP1) hS1)
  · exact va_putN (D := G.1) (Ts := gdT) (T := T) (C := CN) (N := N) C.1 C.2.1 C.2.2.2.2.1 h2 ty0 h4 h3 C.2.2.2.1 C.2.2.2.2.2.1 hP (zw_D G μ) hS a hat h1 k hk (va_Nw.use rfl (C.2.2.2.2.2.2.1 _ hlk rfl)) (fun x h => by rw [hown] at h; exact h) hfin hty hn hfit hl hd (fun H1 locs1 hP1 _ hS1 => kk H1 locs1 (by rw [hset] at hP1; exact hP1) hS1)
/-- a store into an array of ints, bytes or booleans -/
theorem z_ast (C : zCtx G own cc nL d K rt p l s m args meth c) (hP : va_P G.1 vwCl (zw G μ) H) (hS : va_S (zA G) s.heap H locs) {t a : Nat} {i x : Int32} (hi : zin G.2.2.2 t a i) (hd : (t = 0 ∧ decode cc pc = .ok (.iastore, 1)) ∨ ((t = 2 ∨ t = 3) ∧ decode cc pc = .ok (.bastore, 1)))
    (kk : ∀ (H1 : Heap) (locs1 : List Loc), va_P G.1 vwCl (zw G (zset μ a i.toNatClampNeg (znr t x))) H1 → va_S (zA G) s.heap H1 locs1 → W p l e (zrmC (d + 1) cl sl) s m args below meth c H1 locs1 cl sl Q (F0 m (pc + 1) ls rest)) : W p l e (zrmC (d + 1) cl sl) s m args below meth c H locs cl sl Q (F0 m pc ls (.int x :: .int i :: .ref (G.2.2.1 + a) :: rest)) := by
  obtain ⟨n, r, h1, h2, -⟩ := zin_some hi
  have hat := zw_at (μ := μ) h1
  rcases hd with ⟨rfl, hd⟩ | ⟨rfl | rfl, hd⟩
  · exact va_iast C.1 C.2.1 C.2.2.2.2.2.1 hP (zw_D G μ) hS _ 0 hat rfl h2 hd (fun H1 locs1 hP1 _ hS1 => kk H1 locs1 (by rw [zw_set (μ' := zset μ a i.toNatClampNeg (znr 0 x)) h1 (by simp only [zcell, zar, zset_1]; rfl) (zcell_ne μ _)] at hP1; exact hP1) hS1)
  · exact va_bast C.1 C.2.1 C.2.2.2.2.2.1 hP (zw_D G μ) hS _ 2 hat rfl h2 hd (fun H1 locs1 hP1 _ hS1 => kk H1 locs1 (by rw [zw_set (μ' := zset μ a i.toNatClampNeg (znr 2 x)) h1 (by simp only [zcell, zar, zset_1]; rfl) (zcell_ne μ _)] at hP1; exact hP1) hS1)
  · exact va_zast C.1 C.2.1 C.2.2.2.2.2.1 hP (zw_D G μ) hS _ 3 hat rfl h2 hd (fun H1 locs1 hP1 _ hS1 => kk H1 locs1 (by rw [zw_set (μ' := zset μ a i.toNatClampNeg (znr 3 x)) h1 (by simp only [zcell, zar, zset_1]; rfl) (zcell_ne μ _)] at hP1; exact hP1) hS1)
theorem z_astL (C : zCtx G own cc nL d K rt p l s m args meth c) (hP : va_P G.1 vwCl (zw G μ) H) (hS : va_S (zA G) s.heap H locs) {a : Nat} {i : Int32} {x : Int64} (hi : zin G.2.2.2 1 a i) (hd : decode cc pc = .ok (.lastore, 1))
    (kk : ∀ (H1 : Heap) (locs1 : List Loc), va_P G.1 vwCl (zw G (zsetL μ a i.toNatClampNeg x)) H1 → va_S (zA G) s.heap H1 locs1 → W p l e (zrmC (d + 1) cl sl) s m args below meth c H1 locs1 cl sl Q (F0 m (pc + 1) ls rest)) : W p l e (zrmC (d + 1) cl sl) s m args below meth c H locs cl sl Q (F0 m pc ls (.long x :: .int i :: .ref (G.2.2.1 + a) :: rest)) := by
  obtain ⟨n, r, h1, h2, -⟩ := zin_some hi
  have hat := zw_at (μ := μ) h1
  exact va_last C.1 C.2.1 C.2.2.2.2.2.1 hP (zw_D G μ) hS _ 1 hat rfl h2 hd (fun H1 locs1 hP1 _ hS1 => kk H1 locs1 (by rw [zw_set (μ' := zsetL μ a i.toNatClampNeg x) h1 (by simp only [zcell, zar, zsetL_2]) (zcell_neL μ _)] at hP1; exact hP1) hS1)
end ZP
section ZS2
variable {G : ZG} {own : String} {cc : ByteArray} {nL d : Nat} {K : ZKt} {rt : Option FieldType} {w pc : Nat} {E : List Nat} {lb : Nat → List Nat}
theorem CS.decI_n {n : Fin 4} {i p1 : Nat} {f : XE Int32} (h : CX Value.int G own cc nL d K rt 0 pc [p1] f) (hi : (n : Nat) = i) (hn : i < nL) (hd : decode cc p1 = .ok (.istore_n n, 1)) (hq : p1 + 1 ∈ E) : CS G own cc nL d K rt E lb pc (sDecI i f) := by
  intro p l e s m args below meth c P cl sl C σ N B hf kN kB
  refine h p l e s m args below meth c P cl sl C σ [] _ (Nat.le_refl _) hf (fun x σ' hx q hq1 => ?_)
  cases List.mem_singleton.mp hq1
  intro H locs ls hP hS hL
  exact lv_istore_n C.1 C.2.1 hd hi (zL_has hL) hn rfl (fun ls' hl => kN _ hx.2 _ hq H locs ls' hP hS (zL_app1 hL hx.1 rfl hl))
theorem CS.setI_n {n : Fin 4} {i p1 : Nat} {f : XE Int32} (h : CX Value.int G own cc nL d K rt 0 pc [p1] f) (hi : (n : Nat) = i) (hn : i < nL) (hd : decode cc p1 = .ok (.istore_n n, 1)) (hq : p1 + 1 ∈ E) : CS G own cc nL d K rt E lb pc (sSetI i f) := by
  intro p l e s m args below meth c P cl sl C σ N B hf kN kB
  refine h p l e s m args below meth c P cl sl C σ [] _ (Nat.le_refl _) hf (fun x σ' hx q hq1 => ?_)
  cases List.mem_singleton.mp hq1
  intro H locs ls hP hS hL
  obtain ⟨y, hy⟩ := Option.isSome_iff_exists.mp hx.1
  exact lv_istore_n C.1 C.2.1 hd hi (zL_has hL) hn rfl (fun ls' hl => kN _ hx.2 _ hq H locs ls' hP hS (zL_set1 hL (zli_at hy) (fun h => by cases h) rfl rfl hl))
theorem CS.decI {i p1 : Nat} {f : XE Int32} (h : CX Value.int G own cc nL d K rt 0 pc [p1] f) (hn : i < nL) (hd : decode cc p1 = .ok (.istore i, 2)) (hq : p1 + 2 ∈ E) : CS G own cc nL d K rt E lb pc (sDecI i f) := by
  intro p l e s m args below meth c P cl sl C σ N B hf kN kB
  refine h p l e s m args below meth c P cl sl C σ [] _ (Nat.le_refl _) hf (fun x σ' hx q hq1 => ?_)
  cases List.mem_singleton.mp hq1
  intro H locs ls hP hS hL
  exact lv_istore C.1 C.2.1 hd (zL_has hL) hn rfl (fun ls' hl => kN _ hx.2 _ hq H locs ls' hP hS (zL_app1 hL hx.1 rfl hl))
theorem CS.setI {i p1 : Nat} {f : XE Int32} (h : CX Value.int G own cc nL d K rt 0 pc [p1] f) (hn : i < nL) (hd : decode cc p1 = .ok (.istore i, 2)) (hq : p1 + 2 ∈ E) : CS G own cc nL d K rt E lb pc (sSetI i f) := by
  intro p l e s m args below meth c P cl sl C σ N B hf kN kB
  refine h p l e s m args below meth c P cl sl C σ [] _ (Nat.le_refl _) hf (fun x σ' hx q hq1 => ?_)
  cases List.mem_singleton.mp hq1
  intro H locs ls hP hS hL
  obtain ⟨y, hy⟩ := Option.isSome_iff_exists.mp hx.1
  exact lv_istore C.1 C.2.1 hd (zL_has hL) hn rfl (fun ls' hl => kN _ hx.2 _ hq H locs ls' hP hS (zL_set1 hL (zli_at hy) (fun h => by cases h) rfl rfl hl))
theorem CS.decR_n {n : Fin 4} {i p1 : Nat} {f : XE Nat} (h : CX Value.ref G own cc nL d K rt 0 pc [p1] f) (hi : (n : Nat) = i) (hn : i < nL) (hd : decode cc p1 = .ok (.astore_n n, 1)) (hq : p1 + 1 ∈ E) : CS G own cc nL d K rt E lb pc (sDecR i f) := by
  intro p l e s m args below meth c P cl sl C σ N B hf kN kB
  refine h p l e s m args below meth c P cl sl C σ [] _ (Nat.le_refl _) hf (fun x σ' hx q hq1 => ?_)
  cases List.mem_singleton.mp hq1
  intro H locs ls hP hS hL
  exact lv_astore_n C.1 C.2.1 hd hi (zL_has hL) hn rfl (fun ls' hl => kN _ hx.2 _ hq H locs ls' hP hS (zL_app1 hL hx.1 rfl hl))
theorem CS.decR {i p1 : Nat} {f : XE Nat} (h : CX Value.ref G own cc nL d K rt 0 pc [p1] f) (hn : i < nL) (hd : decode cc p1 = .ok (.astore i, 2)) (hq : p1 + 2 ∈ E) : CS G own cc nL d K rt E lb pc (sDecR i f) := by
  intro p l e s m args below meth c P cl sl C σ N B hf kN kB
  refine h p l e s m args below meth c P cl sl C σ [] _ (Nat.le_refl _) hf (fun x σ' hx q hq1 => ?_)
  cases List.mem_singleton.mp hq1
  intro H locs ls hP hS hL
  exact lv_astore C.1 C.2.1 hd (zL_has hL) hn rfl (fun ls' hl => kN _ hx.2 _ hq H locs ls' hP hS (zL_app1 hL hx.1 rfl hl))
theorem CS.decL_n {n : Fin 4} {i p1 : Nat} {f : XE Int64} (h : CX Value.long G own cc nL d K rt 0 pc [p1] f) (hi : (n : Nat) = i) (hn : i + 1 < nL) (hd : decode cc p1 = .ok (.lstore_n n, 1)) (hq : p1 + 1 ∈ E) : CS G own cc nL d K rt E lb pc (sDecL i f) := by
  intro p l e s m args below meth c P cl sl C σ N B hf kN kB
  refine h p l e s m args below meth c P cl sl C σ [] _ (Nat.le_refl _) hf (fun x σ' hx q hq1 => ?_)
  cases List.mem_singleton.mp hq1
  intro H locs ls hP hS hL
  exact lv_lstore_n C.1 C.2.1 hd hi (zL_has hL) hn rfl (fun ls' hl => kN _ hx.2 _ hq H locs ls' hP hS (zL_app2 hL hx.1 hl))
theorem CS.setL_n {n : Fin 4} {i p1 : Nat} {f : XE Int64} (h : CX Value.long G own cc nL d K rt 0 pc [p1] f) (hi : (n : Nat) = i) (hn : i + 1 < nL) (hd : decode cc p1 = .ok (.lstore_n n, 1)) (hq : p1 + 1 ∈ E) : CS G own cc nL d K rt E lb pc (sSetL i f) := by
  intro p l e s m args below meth c P cl sl C σ N B hf kN kB
  refine h p l e s m args below meth c P cl sl C σ [] _ (Nat.le_refl _) hf (fun x σ' hx q hq1 => ?_)
  cases List.mem_singleton.mp hq1
  intro H locs ls hP hS hL
  obtain ⟨y, hy⟩ := Option.isSome_iff_exists.mp hx.1
  exact lv_lstore_n C.1 C.2.1 hd hi (zL_has hL) hn rfl (fun ls' hl => kN _ hx.2 _ hq H locs ls' hP hS (zL_set2 hL (zlj_at hy) (fun h => by cases h) rfl hl))
theorem CS.decL {i p1 : Nat} {f : XE Int64} (h : CX Value.long G own cc nL d K rt 0 pc [p1] f) (hn : i + 1 < nL) (hd : decode cc p1 = .ok (.lstore i, 2)) (hq : p1 + 2 ∈ E) : CS G own cc nL d K rt E lb pc (sDecL i f) := by
  intro p l e s m args below meth c P cl sl C σ N B hf kN kB
  refine h p l e s m args below meth c P cl sl C σ [] _ (Nat.le_refl _) hf (fun x σ' hx q hq1 => ?_)
  cases List.mem_singleton.mp hq1
  intro H locs ls hP hS hL
  exact lv_lstore C.1 C.2.1 hd (zL_has hL) hn rfl (fun ls' hl => kN _ hx.2 _ hq H locs ls' hP hS (zL_app2 hL hx.1 hl))
theorem CS.setL {i p1 : Nat} {f : XE Int64} (h : CX Value.long G own cc nL d K rt 0 pc [p1] f) (hn : i + 1 < nL) (hd : decode cc p1 = .ok (.lstore i, 2)) (hq : p1 + 2 ∈ E) : CS G own cc nL d K rt E lb pc (sSetL i f) := by
  intro p l e s m args below meth c P cl sl C σ N B hf kN kB
  refine h p l e s m args below meth c P cl sl C σ [] _ (Nat.le_refl _) hf (fun x σ' hx q hq1 => ?_)
  cases List.mem_singleton.mp hq1
  intro H locs ls hP hS hL
  obtain ⟨y, hy⟩ := Option.isSome_iff_exists.mp hx.1
  exact lv_lstore C.1 C.2.1 hd (zL_has hL) hn rfl (fun ls' hl => kN _ hx.2 _ hq H locs ls' hP hS (zL_set2 hL (zlj_at hy) (fun h => by cases h) rfl hl))
theorem CS.inc {i : Nat} {n : Int} {v : Int32} (hv : Int32.ofInt n = v) (hn : i < nL) (hd : decode cc pc = .ok (.iinc i n, 3)) (hq : pc + 3 ∈ E) : CS G own cc nL d K rt E lb pc (sInc i v) := by
  intro p l e s m args below meth c P cl sl C σ N B hf kN kB
  obtain ⟨y, hy⟩ := Option.isSome_iff_exists.mp hf.1
  intro H locs ls hP hS hL
  have hN := hf.2
  simp only [hy, Option.getD_some] at hN
  obtain ⟨k, hk⟩ : ∃ k : Nat, (zas G.2.2.1 0 σ.1)[k]? = some (i, Value.int y) := List.getElem?_of_mem ((zas_in σ.1 0 _).mpr ⟨i, Value.int y, by simp [zsh], zli_at hy, fun h => by cases h⟩)
  subst hv
  exact lv_iinc C.1 C.2.1 hd (zL_has hL) hk rfl hn rfl (fun ls' hl => kN _ hN _ hq H locs ls' hP hS (zL_set1 hL (zli_at hy) (fun h => by cases h) rfl rfl hl))
theorem CS.retI {p1 : Nat} {f : XE Int32} (h : CX Value.int G own cc nL d K (some .int) 0 pc [p1] f) (hd : decode cc p1 = .ok (.ireturn, 1)) : CS G own cc nL d K (some .int) E lb pc (sRetI f) := by
  intro p l e s m args below meth c P cl sl C σ N B hf kN kB
  refine h p l e s m args below meth c P cl sl C σ [] _ (Nat.le_refl _) hf (fun x σ' hx q hq1 => ?_)
  cases List.mem_singleton.mp hq1
  intro H locs ls hP hS hL
  exact W.iret C.1 C.2.1 C.2.2.2.2.2.2.2.2.1 (fun t ht hW => ⟨some (.int x), σ'.2, rfl, hx, by rw [ht]; exact hP, hS.F ht⟩) hS.2.2 hd C.2.2.2.2.2.2.2.1
theorem CS.retL {p1 : Nat} {f : XE Int64} (h : CX Value.long G own cc nL d K (some .long) 0 pc [p1] f) (hd : decode cc p1 = .ok (.lreturn, 1)) : CS G own cc nL d K (some .long) E lb pc (sRetL f) := by
  intro p l e s m args below meth c P cl sl C σ N B hf kN kB
  refine h p l e s m args below meth c P cl sl C σ [] _ (Nat.le_refl _) hf (fun x σ' hx q hq1 => ?_)
  cases List.mem_singleton.mp hq1
  intro H locs ls hP hS hL
  exact W.lret C.1 C.2.1 C.2.2.2.2.2.2.2.2.1 (fun t ht hW => ⟨some (.long x), σ'.2, rfl, hx, by rw [ht]; exact hP, hS.F ht⟩) hS.2.2 hd C.2.2.2.2.2.2.2.1
end ZS2
