/-! THE WALK: fields, arrays, ternaries, conditions, calls that change nothing -/
/-- a field's place in the code of class own: entry idx, field k (of type ty) of class ci -/
def zFs (own : String) (idx ci k : Nat) (ty : FieldType) : Prop := ∃ C T N, zCls ci C T N ∧ k < N ∧ parseFieldDescriptor (T k).2.2.1 = some ty ∧ (Cond.fieldLink own idx C (T k).2.1 (T k).2.2.1 ∈ lw_tbl ∨ ∃ host, Cond.fieldLinkNest own idx C (T k).2.1 (T k).2.2.1 host ∈ lw_tbl) ∧ (T k).1 = C
theorem zof_some {Z : List ZD} {ci a k : Nat} {q : Option (Option Nat)} (hc : zoc Z a = some ci) (hf : zof Z a k = some q) : ∃ fs, Z[a]? = some (.inl (ci, fs)) ∧ fs[k]? = some q := by
  unfold zoc at hc
  unfold zof at hf
  cases h : Z[a]? with
  | none => rw [h] at hc; cases hc
  | some x =>
    cases x with
    | inr x => rw [h] at hc; cases hc
    | inl x =>
      obtain ⟨c, fs⟩ := x
      rw [h] at hc hf
      cases hc
      exact ⟨fs, rfl, hf⟩
section ZF
variable {p : Program} {l : Launch} {e : Env} {R : Room} {s : State} {m : MethodId} {args : Array Value} {below : List Frame} {meth : Method} {c : Code} {H : Heap} {locs : List Loc} {cells slots : Nat} {Q : State → Prop}
variable {G : ZG} {own : String} {cc : ByteArray} {nL d : Nat} {K : ZKt} {rt : Option FieldType} {μ : ZM} {pc : Nat} {ls : Array Slot} {rest : List Value}
theorem z_getf (C : zCtx G own cc nL d K rt p l s m args meth c) (hP : va_P G.1 vwCl (zw G μ) H) {idx ci k a : Nat} {ty : FieldType} {q : Option (Option Nat)} (hs : zFs own idx ci k ty) (hc : zoc G.2.2.2 a = some ci) (hf : zof G.2.2.2 a k = some q) (hd : decode cc pc = .ok (.getfield idx, 3))
    (kk : W p l e R s m args below meth c H locs cells slots Q (F0 m (pc + 3) ls (zfv G.2.2.1 μ a k q :: rest))) : W p l e R s m args below meth c H locs cells slots Q (F0 m pc ls (.ref (G.2.2.1 + a) :: rest)) := by
  obtain ⟨CN, T, N, ⟨h1, h2, h3, ty0, h4⟩, hk, hty, hlk, hown⟩ := hs
  obtain ⟨fs, g1, g2⟩ := zof_some hc hf
  have hat := zw_at (μ := μ) g1
  have hv : (fs.mapIdx (zfv G.2.2.1 μ a))[k]? = some (zfv G.2.2.1 μ a k q) := by simp [List.getElem?_mapIdx, g2]
  rcases hlk with hlk | ⟨host, hlk⟩
  · exact va_get (D := G.1) (Ts := gdT) (T := T) (C := CN) (N := N) C.1 C.2.1 C.2.2.2.2.1 h2 C.2.2.2.1 C.2.2.2.2.2.1 hP a hat h1 k hk (C.2.2.2.2.1 _ (z_gd hlk rfl)) (fun x h => by rw [hown] at h; exact h) hv hd kk
  · exact va_getN (D := G.1) (Ts := gdT) (T := T) (C := CN) (N := N) C.1 C.2.1 C.2.2.2.2.1 h2 C.2.2.2.1 C.2.2.2.2.2.1 hP a hat h1 k hk (va_Nw.use rfl (C.2.2.2.2.2.2.1 _ hlk rfl)) (fun x h => by rw [hown] at h; exact h) hv hd kk
end ZF
theorem zin_some {Z : List ZD} {t a : Nat} {i : Int32} (h : zin Z t a i) : ∃ n r, Z[a]? = some (.inr (t, n, r)) ∧ vp_in i n ∧ zoa Z a = some (t, n, r) := by
  unfold zin at h
  cases hz : zoa Z a with
  | none => rw [hz] at h; exact h.elim
  | some x =>
    obtain ⟨t', n, r⟩ := x
    rw [hz] at h
    obtain ⟨rfl, h2⟩ := h
    refine ⟨n, r, ?_, h2, rfl⟩
    unfold zoa at hz
    cases hx : Z[a]? with
    | none => rw [hx] at hz; cases hz
    | some y =>
      rw [hx] at hz
      cases y with
      | inl y => cases hz
      | inr y => cases hz; rfl
section ZE2
variable {G : ZG} {own : String} {cc : ByteArray} {nL d : Nat} {K : ZKt} {rt : Option FieldType} {w pc : Nat} {E : List Nat}
theorem CE.getI {p1 idx ci k : Nat} {ty : FieldType} {a : PE Nat} (ha : CE Value.ref G own cc nL d K rt w pc [p1] a) (hs : zFs own idx ci k ty) (hd : decode cc p1 = .ok (.getfield idx, 3)) (hq : p1 + 3 ∈ E) : CE Value.int G own cc nL d K rt w pc E (eF G.2.2.2 ci k a) := by
  intro p l e s m args below meth c P cl sl C σ rest hw hf kk
  refine ha p l e s m args below meth c P cl sl C σ rest hw hf.1 (fun q hq1 => ?_)
  cases List.mem_singleton.mp hq1
  intro H locs ls hP hS hL
  exact z_getf C hP hs hf.2.1 hf.2.2 hd (kk _ hq H locs ls hP hS hL)
theorem CE.getL {p1 idx ci k : Nat} {ty : FieldType} {a : PE Nat} (ha : CE Value.ref G own cc nL d K rt w pc [p1] a) (hs : zFs own idx ci k ty) (hd : decode cc p1 = .ok (.getfield idx, 3)) (hq : p1 + 3 ∈ E) : CE Value.long G own cc nL d K rt w pc E (eFL G.2.2.2 ci k a) := by
  intro p l e s m args below meth c P cl sl C σ rest hw hf kk
  refine ha p l e s m args below meth c P cl sl C σ rest hw hf.1 (fun q hq1 => ?_)
  cases List.mem_singleton.mp hq1
  intro H locs ls hP hS hL
  exact z_getf C hP hs hf.2.1 hf.2.2 hd (kk _ hq H locs ls hP hS hL)
theorem zrf_some {Z : List ZD} {ci a k r : Nat} (h : zrf Z ci a k = some r) : zoc Z a = some ci ∧ zof Z a k = some (some (some r)) := by
  unfold zrf at h
  split at h
  · rename_i c' r' h1 h2
    split at h
    · rename_i hc
      subst hc
      cases h
      exact ⟨h1, h2⟩
    · cases h
  · cases h
theorem CE.getR {p1 idx ci k : Nat} {ty : FieldType} {a : PE Nat} (ha : CE Value.ref G own cc nL d K rt w pc [p1] a) (hs : zFs own idx ci k ty) (hd : decode cc p1 = .ok (.getfield idx, 3)) (hq : p1 + 3 ∈ E) : CE Value.ref G own cc nL d K rt w pc E (eFR G.2.2.2 ci k a) := by
  intro p l e s m args below meth c P cl sl C σ rest hw hf kk
  refine ha p l e s m args below meth c P cl sl C σ rest hw hf.1 (fun q hq1 => ?_)
  cases List.mem_singleton.mp hq1
  intro H locs ls hP hS hL
  obtain ⟨r, hr⟩ := Option.isSome_iff_exists.mp hf.2
  obtain ⟨h1, h2⟩ := zrf_some hr
  have h3 := kk _ hq H locs ls hP hS hL
  simp only [eFR, hr, Option.getD_some] at h3
  exact z_getf C hP hs h1 h2 hd h3
theorem CE.aldI {p1 p2 t : Nat} {a : PE Nat} {i : PE Int32} (ha : CE Value.ref G own cc nL d K rt w pc [p1] a) (hb : CE Value.int G own cc nL d K rt (w + 1) p1 [p2] i) (ht : (t = 0 ∧ decode cc p2 = .ok (.iaload, 1)) ∨ ((t = 2 ∨ t = 3) ∧ decode cc p2 = .ok (.baload, 1))) (hq : p2 + 1 ∈ E) : CE Value.int G own cc nL d K rt w pc E (eA G.2.2.2 t a i) := by
  intro p l e s m args below meth c P cl sl C σ rest hw hf kk
  refine ha p l e s m args below meth c P cl sl C σ rest hw hf.1 (fun q hq1 => ?_)
  cases List.mem_singleton.mp hq1
  refine hb p l e s m args below meth c P cl sl C σ _ (by simp [zcs, Value.category] at hw ⊢; omega) hf.2.1 (fun q hq1 => ?_)
  cases List.mem_singleton.mp hq1
  intro H locs ls hP hS hL
  obtain ⟨n, r, h1, h2, -⟩ := zin_some hf.2.2
  have hat := zw_at (μ := σ.2) h1
  have h3 := kk _ hq H locs ls hP hS hL
  rcases ht with ⟨rfl, hd⟩ | ⟨rfl | rfl, hd⟩
  · exact va_iald C.1 C.2.1 C.2.2.2.2.2.1 hP _ 0 hat rfl h2 hd h3
  · exact va_bald C.1 C.2.1 C.2.2.2.2.2.1 hP _ 2 hat rfl h2 hd h3
  · exact va_zald C.1 C.2.1 C.2.2.2.2.2.1 hP _ 3 hat rfl h2 hd h3
theorem CE.aldL {p1 p2 : Nat} {a : PE Nat} {i : PE Int32} (ha : CE Value.ref G own cc nL d K rt w pc [p1] a) (hb : CE Value.int G own cc nL d K rt (w + 1) p1 [p2] i) (hd : decode cc p2 = .ok (.laload, 1)) (hq : p2 + 1 ∈ E) : CE Value.long G own cc nL d K rt w pc E (eAL G.2.2.2 a i) := by
  intro p l e s m args below meth c P cl sl C σ rest hw hf kk
  refine ha p l e s m args below meth c P cl sl C σ rest hw hf.1 (fun q hq1 => ?_)
  cases List.mem_singleton.mp hq1
  refine hb p l e s m args below meth c P cl sl C σ _ (by simp [zcs, Value.category] at hw ⊢; omega) hf.2.1 (fun q hq1 => ?_)
  cases List.mem_singleton.mp hq1
  intro H locs ls hP hS hL
  obtain ⟨n, r, h1, h2, -⟩ := zin_some hf.2.2
  have hat := zw_at (μ := σ.2) h1
  exact va_lald C.1 C.2.1 C.2.2.2.2.2.1 hP _ 1 hat rfl h2 hd (kk _ hq H locs ls hP hS hL)
theorem CE.aldR {p1 p2 : Nat} {a : PE Nat} {i : PE Int32} (ha : CE Value.ref G own cc nL d K rt w pc [p1] a) (hb : CE Value.int G own cc nL d K rt (w + 1) p1 [p2] i) (hd : decode cc p2 = .ok (.aaload, 1)) (hq : p2 + 1 ∈ E) : CE Value.ref G own cc nL d K rt w pc E (eAR G.2.2.2 a i) := by
  intro p l e s m args below meth c P cl sl C σ rest hw hf kk
  refine ha p l e s m args below meth c P cl sl C σ rest hw hf.1 (fun q hq1 => ?_)
  cases List.mem_singleton.mp hq1
  refine hb p l e s m args below meth c P cl sl C σ _ (by simp [zcs, Value.category] at hw ⊢; omega) hf.2.1 (fun q hq1 => ?_)
  cases List.mem_singleton.mp hq1
  intro H locs ls hP hS hL
  obtain ⟨n, r, h1, h2, h4⟩ := zin_some hf.2.2
  have hat := zw_at (μ := σ.2) h1
  have h3 := kk _ hq H locs ls hP hS hL
  have hr : zrw G.2.2.2 (a σ).2 = r := by simp [zrw, h4]
  simp only [eAR, hr] at h3
  have hlt : (i σ).2.toNatClampNeg < n := Nat.not_le.mp fun q => h2 (Or.inr q)
  exact W.aald (v := .ref (G.2.2.1 + (r + (i σ).2.toNatClampNeg))) (ty := .array .int) C.1 C.2.1 (hP _ _ hat) ((C.2.2.2.2.2.1.2 4 _ rfl).1 n (fun j => va_rf (some (G.2.2.1 + (r + j))))) rfl (fun q => by cases q) (by show ¬ (_ ∨ (arrV _ _ _).slots.size ≤ _); rw [arrV_size]; exact h2) (by show (arrV (G.2.1 4) n (fun j => va_rf (some (G.2.2.1 + (r + j))))).slots[_]? = _; rw [arrV_read _ _ hlt]; rfl) rfl rfl hd h3
theorem CE.alen {p1 : Nat} {a : PE Nat} (ha : CE Value.ref G own cc nL d K rt w pc [p1] a) (hd : decode cc p1 = .ok (.arraylength, 1)) (hq : p1 + 1 ∈ E) (ht : ∀ b t n r, zoa G.2.2.2 b = some (t, n, r) → t < 5) : CE Value.int G own cc nL d K rt w pc E (eN G.2.2.2 a) := by
  intro p l e s m args below meth c P cl sl C σ rest hw hf kk
  refine ha p l e s m args below meth c P cl sl C σ rest hw hf.1 (fun q hq1 => ?_)
  cases List.mem_singleton.mp hq1
  intro H locs ls hP hS hL
  obtain ⟨⟨t, n, r⟩, hr⟩ := Option.isSome_iff_exists.mp hf.2
  have h1 : G.2.2.2[(a σ).2]? = some (.inr (t, n, r)) := by
    unfold zoa at hr
    cases hx : G.2.2.2[(a σ).2]? with
    | none => rw [hx] at hr; cases hr
    | some y =>
      rw [hx] at hr
      cases y with
      | inl y => cases hr
      | inr y => cases hr; rfl
  have hat := zw_at (μ := σ.2) h1
  have h3 := kk _ hq H locs ls hP hS hL
  simp only [eN, hr] at h3
  have ht5 := ht _ _ _ _ hr
  match t, ht5, hat with
  | 0, _, hat => exact va_alen C.1 C.2.1 C.2.2.2.2.2.1 hP _ 0 hat rfl rfl hd h3
  | 1, _, hat => exact va_alen C.1 C.2.1 C.2.2.2.2.2.1 hP _ 1 hat rfl rfl hd h3
  | 2, _, hat => exact va_alen C.1 C.2.1 C.2.2.2.2.2.1 hP _ 2 hat rfl rfl hd h3
  | 3, _, hat => exact va_alen C.1 C.2.1 C.2.2.2.2.2.1 hP _ 3 hat rfl rfl hd h3
  | 4, _, hat => exact va_alen C.1 C.2.1 C.2.2.2.2.2.1 hP _ 4 hat rfl rfl hd h3
/-- a jump -/
theorem z_goto {p : Program} {l : Launch} {e : Env} {s : State} {m : MethodId} {args : Array Value} {below : List Frame} {meth : Method} {c : Code} {P : Option Value → ZM → Prop} {cl sl : Nat} (C : zCtx G own cc nL d K rt p l s m args meth c) {q : Nat} {off : Int} (hd : decode cc pc = .ok (.goto off, 3)) (ht : (pc : Int) + off = (q : Int)) {σ : ZS} {rest : List Value} (k : zW G nL d p l e s m args below meth c P cl sl q σ rest) : zW G nL d p l e s m args below meth c P cl sl pc σ rest := by
  intro H locs ls hP hS hL
  exact lv_goto C.1 C.2.1 hd ht (k H locs ls hP hS hL)
theorem CE.tern {α : Type} {tg : α → Value} {T F p1 q : Nat} {off : Int} {c : PE Bool} {a b : PE α} {E1 : List Nat} (hc : CC G own cc nL d K rt w pc T F c) (ha : CE tg G own cc nL d K rt w T E1 a) (h1 : ∀ x ∈ E1, x = p1 ∨ x = q) (hd : decode cc p1 = .ok (.goto off, 3)) (ht : (p1 : Int) + off = (q : Int)) (hq : q ∈ E) (hb : CE tg G own cc nL d K rt w F E b) : CE tg G own cc nL d K rt w pc E (eT c a b) := by
  intro p l e s m args below meth c' P cl sl C σ rest hw hf kk
  refine hc p l e s m args below meth c' P cl sl C σ rest hw hf.1 (fun h => ?_) (fun h => ?_)
  · refine ha p l e s m args below meth c' P cl sl C σ rest hw (hf.2.1 h) (fun x hx => ?_)
    have h2 := kk q hq
    simp only [eT, h, if_true] at h2
    rcases h1 x hx with rfl | rfl
    · exact z_goto C hd ht h2
    · exact h2
  · refine hb p l e s m args below meth c' P cl sl C σ rest hw (hf.2.2 h) (fun x hx => ?_)
    have h2 := kk x hx
    simp only [eT, h] at h2
    exact h2
theorem CE.bool {T F p1 q : Nat} {off : Int} {c : PE Bool} (hc : CC G own cc nL d K rt w pc T F c) (hT : decode cc T = .ok (.iconst 1, 1)) (hp : T + 1 = p1) (hd : decode cc p1 = .ok (.goto off, 3)) (ht : (p1 : Int) + off = (q : Int)) (hq : q ∈ E) (hF : decode cc F = .ok (.iconst 0, 1)) (hq2 : F + 1 ∈ E) : CE Value.int G own cc nL d K rt w pc E (eI c) := by
  intro p l e s m args below meth c' P cl sl C σ rest hw hf kk
  refine hc p l e s m args below meth c' P cl sl C σ rest hw hf (fun h => ?_) (fun h => ?_)
  · intro H locs ls hP hS hL
    have h2 := kk q hq
    simp only [eI, h, zi, if_true] at h2
    refine lv_iconst C.1 C.2.1 hT (v := 1) (by decide) ?_
    rw [hp]
    exact z_goto C hd ht h2 H locs ls hP hS hL
  · intro H locs ls hP hS hL
    have h2 := kk _ hq2
    simp only [eI, h, zi] at h2
    exact lv_iconst C.1 C.2.1 hF (v := 0) (by decide) (h2 H locs ls hP hS hL)
theorem CC.and {p1 T F : Nat} {a b : PE Bool} (ha : CC G own cc nL d K rt w pc p1 F a) (hb : CC G own cc nL d K rt w p1 T F b) : CC G own cc nL d K rt w pc T F (eAnd a b) := by
  intro p l e s m args below meth c P cl sl C σ rest hw hf kT kF
  simp only [eAnd] at kT kF
  refine ha p l e s m args below meth c P cl sl C σ rest hw hf.1 (fun h => ?_) (fun h => kF (by simp [h]))
  exact hb p l e s m args below meth c P cl sl C σ rest hw (hf.2 h) (fun h2 => kT (by simp [h, h2])) (fun h2 => kF (by simp [h2]))
theorem CC.or {p1 T F : Nat} {a b : PE Bool} (ha : CC G own cc nL d K rt w pc T p1 a) (hb : CC G own cc nL d K rt w p1 T F b) : CC G own cc nL d K rt w pc T F (eOr a b) := by
  intro p l e s m args below meth c P cl sl C σ rest hw hf kT kF
  simp only [eOr] at kT kF
  refine ha p l e s m args below meth c P cl sl C σ rest hw hf.1 (fun h => kT (by simp [h])) (fun h => ?_)
  exact hb p l e s m args below meth c P cl sl C σ rest hw (hf.2 h) (fun h2 => kT (by simp [h2])) (fun h2 => kF (by simp [h, h2]))
theorem CC.not {T F : Nat} {a : PE Bool} (ha : CC G own cc nL d K rt w pc F T a) : CC G own cc nL d K rt w pc T F (eNot a) := by
  intro p l e s m args below meth c P cl sl C σ rest hw hf kT kF
  simp only [eNot] at kT kF
  exact ha p l e s m args below meth c P cl sl C σ rest hw hf (fun h => kF (by simp [h])) (fun h => kT (by simp [h]))
theorem CA.nil : CA G own cc nL d K rt w pc pc aN := by
  intro p l e s m args below meth c P cl sl C σ rest hw hf k
  exact k
theorem zrev (v : Value) (as rest : List Value) : (v :: as).reverse ++ rest = as.reverse ++ (v :: rest) := by simp
theorem CA.int {p1 q : Nat} {a : PE Int32} {as : PE (List Value)} (ha : CE Value.int G own cc nL d K rt w pc [p1] a) (hb : CA G own cc nL d K rt (w + 1) p1 q as) : CA G own cc nL d K rt w pc q (aI a as) := by
  intro p l e s m args below meth c P cl sl C σ rest hw hf k
  refine ha p l e s m args below meth c P cl sl C σ rest hw hf.1 (fun x hx => ?_)
  cases List.mem_singleton.mp hx
  refine hb p l e s m args below meth c P cl sl C σ _ (by simp [zcs, Value.category] at hw ⊢; omega) hf.2 ?_
  rw [← zrev]
  exact k
theorem CA.long {p1 q : Nat} {a : PE Int64} {as : PE (List Value)} (ha : CE Value.long G own cc nL d K rt w pc [p1] a) (hb : CA G own cc nL d K rt (w + 2) p1 q as) : CA G own cc nL d K rt w pc q (aL a as) := by
  intro p l e s m args below meth c P cl sl C σ rest hw hf k
  refine ha p l e s m args below meth c P cl sl C σ rest hw hf.1 (fun x hx => ?_)
  cases List.mem_singleton.mp hx
  refine hb p l e s m args below meth c P cl sl C σ _ (by simp [zcs, Value.category] at hw ⊢; omega) hf.2 ?_
  rw [← zrev]
  exact k
theorem CA.ref {p1 q : Nat} {a : PE Nat} {as : PE (List Value)} (ha : CE Value.ref G own cc nL d K rt w pc [p1] a) (hb : CA G own cc nL d K rt (w + 1) p1 q as) : CA G own cc nL d K rt w pc q (aR a as) := by
  intro p l e s m args below meth c P cl sl C σ rest hw hf k
  refine ha p l e s m args below meth c P cl sl C σ rest hw hf.1 (fun x hx => ?_)
  cases List.mem_singleton.mp hx
  refine hb p l e s m args below meth c P cl sl C σ _ (by simp [zcs, Value.category] at hw ⊢; omega) hf.2 ?_
  rw [← zrev]
  exact k
end ZE2
/-! calls -/
/-- what the tables say of a call: entry idx of class own names method I (of n parameters) -/
def zCB (own : String) (idx : Nat) (I : ZI) (n : Nat) : Prop := Cond.code I.1 I.2.1 I.2.2.1 I.2.2.2 ∈ lw_tbl ∧ Cond.initialized I.1.cls ∈ lw_tbl ∧ (I.1.cls ≠ "java/lang/invoke/MethodHandle" ∧ I.1.cls ≠ "java/lang/invoke/VarHandle") ∧ (parseMethodDescriptor I.1.desc).map (fun d => d.parameters.length) = some n ∧ I.2.2.1 ≤ 21 ∧ (Cond.methodLink own idx I.1 ∈ lw_tbl ∨ ∃ host, Cond.methodLinkNest own idx I.1 host ∈ lw_tbl)
def zCV (own : String) (idx ci : Nat) (I : ZI) (n : Nat) : Prop := zCB own idx I n ∧ Cond.instanceMethod I.1 ∈ lw_tbl ∧ Cond.selects I.1.cls I.1 I.1 ∈ lw_tbl ∧ ∃ T N, vwCl[ci]? = some (I.1.cls, T, N)
def zCS (own : String) (idx : Nat) (I : ZI) (n : Nat) : Prop := zCB own idx I n ∧ Cond.static I.1 ∈ lw_tbl
theorem z_sel {y : MethodName} {n : Nat} (i : Nat) (h : lw_privs[i]? = some (y, n)) : Cond.selects y.cls y y ∈ lw_tbl := List.mem_append_left _ (List.mem_map.mpr ⟨_, List.mem_of_getElem? (i := i) h, rfl⟩)
section ZC
variable {p : Program} {l : Launch} {e : Env} {s : State} {m : MethodId} {args : Array Value} {below : List Frame} {meth : Method} {c : Code} {H : Heap} {locs : List Loc} {P : Option Value → ZM → Prop} {cl sl : Nat}
variable {G : ZG} {own : String} {cc : ByteArray} {nL d : Nat} {K : ZKt} {rt : Option FieldType} {μ : ZM} {pc : Nat} {ls : Array Slot} {rest : List Value}
theorem zPc_blind (as : List Value) (μ : ZM) : FrameBlind (zPc G as μ) := fun a U g mk q => ⟨q.1, q.2.1, va_K.moved (u := U) (U := U.calling g mk a) (Vm.Alike.refl U.vm) q.2.2.1, zNw.same (u := U) (U := U.calling g mk a) rfl q.2.2.2⟩
theorem zWs_good (C : zCtx G own cc nL d K rt p l s m args meth c) {I : ZI} (hc : Cond.code I.1 I.2.1 I.2.2.1 I.2.2.2 ∈ lw_tbl) : ∀ w ∈ zWs I, ∀ (a' : Array Value) (U : State), s.WarmedH U.vm → w.before a' U = true := by
  intro w hw a' U hW
  have h1 : w ∈ gdT := by
    rcases List.mem_cons.mp hw with rfl | h
    · exact z_gd hc rfl
    · exact h
  exact word_at hW (good_of_word (List.mem_filter.mp h1).2) (C.2.2.2.2.1 w h1)
theorem z_after {P' : Option Value → ZM → Prop} {st0 : List Value} {as : Array Value} (hr : va_Run p l e (zrmC (d + 1) cl sl) s m args below meth c H locs cl sl 0 0 (F0 m pc ls st0) rest (zQ G P' as) (zA G)) (hS : va_S (zA G) s.heap H locs)
    {Q : State → Prop} (kk : ∀ (v : Option Value) (μ' : ZM) (H1 : Heap) (locs1 : List Loc), P' v μ' → va_P G.1 vwCl (zw G μ') H1 → va_S (zA G) s.heap H1 locs1 → W p l e (zrmC (d + 1) cl sl) s m args below meth c H1 locs1 cl sl Q (F0 m (pc + 3) ls ((v.map (zsh G.2.2.1)).toList ++ rest))) : W p l e (zrmC (d + 1) cl sl) s m args below meth c H locs cl sl Q (F0 m pc ls st0) := by
  intro T hT X
  obtain ⟨v, st₀, t, T', L, h0, X', hL, e1, e2, ⟨v', μ', hv, hp, hb, hz, hk⟩, st⟩ := hr T hT X
  cases hv
  rw [h0] at hz hk
  obtain ⟨t2, a1, b1⟩ := kk v' μ' T'.heap (locs ++ L) hp (by rw [e1]; exact hb)
    ⟨Nat.le_trans hS.1 (by rw [e1]; exact hz), fun q h1 h2 => by rw [e1, hk q (Nat.lt_of_lt_of_le h1 hS.1) h2]; exact hS.2.1 q h1 h2, fun q hq => by
      rcases List.mem_append.mp hq with h | h
      · exact hS.2.2 q h
      · exact hL q h⟩ T' rfl X'
  exact ⟨t2, st t2 a1, b1⟩
theorem z_pre (C : zCtx G own cc nL d K rt p l s m args meth c) (hP : va_P G.1 vwCl (zw G μ) H) (as : List Value) : ∀ U : State, U.heap = H → s.WarmedH U.vm → zPc G as μ (as.map (zsh G.2.2.1)).toArray U := fun U hU hW => ⟨rfl, by rw [hU]; exact hP, va_K.moved hW.alike C.2.2.2.2.2.1, zNw.warm hW C.2.2.2.2.2.2.1⟩
theorem z_len {I : ZI} {n : Nat} (h : (parseMethodDescriptor I.1.desc).map (fun d => d.parameters.length) = some n) : ∀ sig, parseMethodDescriptor I.1.desc = some sig → n = sig.parameters.length := fun sig hs => by
  rw [hs] at h
  exact (Option.some.inj h).symm
theorem zmaprev (b : Nat) (as rest : List Value) : (as.reverse ++ rest).map (zsh b) = (as.map (zsh b)).reverse ++ rest.map (zsh b) := by simp
/-- a call of a method of an object -/
theorem z_callV (C : zCtx G own cc nL d K rt p l s m args meth c) {idx ci k n a : Nat} {as : List Value} {I : ZI} (hI : zinfo k = I) (hs : zCV own idx ci I n) {P' : Option Value → ZM → Prop} (hK : K k (.ref a :: as) μ P') (ho : zoc G.2.2.2 a = some ci) (hn : as.length = n) (hw : zcs rest ≤ 8)
    (hP : va_P G.1 vwCl (zw G μ) H) (hS : va_S (zA G) s.heap H locs) {L : List Value} (hL : zL G.2.2.1 ls nL L) (hd : decode cc pc = .ok (.invokevirtual idx, 3)) {Q : State → Prop}
    (kk : ∀ (v : Option Value) (μ' : ZM) (H1 : Heap) (locs1 : List Loc), P' v μ' → va_P G.1 vwCl (zw G μ') H1 → va_S (zA G) s.heap H1 locs1 → W p l e (zrmC (d + 1) cl sl) s m args below meth c H1 locs1 cl sl Q (F0 m (pc + 3) ls ((v.map (zsh G.2.2.1)).toList ++ rest.map (zsh G.2.2.1)))) :
    W p l e (zrmC (d + 1) cl sl) s m args below meth c H locs cl sl Q (F0 m pc ls (((.ref a :: as).reverse ++ rest).map (zsh G.2.2.1))) := by
  obtain ⟨⟨hc, hini, hmh, hpl, hml, hlk⟩, hin, hsel, T, N, hcl⟩ := hs
  have hZ : ZT l G d I (.ref a :: as) μ P' := by
    have := C.2.2.2.2.2.2.2.2.2 k (.ref a :: as) μ P' hK
    rw [hI] at this
    exact this
  have gd : ∀ {w : Cond}, w ∈ lw_tbl → goodWord w = true → w.before args s = true := fun h1 h2 => C.2.2.2.2.1 _ (z_gd h1 h2)
  obtain ⟨fs, h1⟩ : ∃ fs, G.2.2.2[a]? = some (.inl (ci, fs)) := by
    unfold zoc at ho
    cases hx : G.2.2.2[a]? with
    | none => rw [hx] at ho; cases ho
    | some y =>
      rw [hx] at ho
      cases y with
      | inr y => cases ho
      | inl y => obtain ⟨c0, fs⟩ := y; cases ho; exact ⟨fs, rfl⟩
  have hat := zw_at (μ := μ) h1
  have hst : ((.ref a :: as).reverse ++ rest).map (zsh G.2.2.1) = (as.map (zsh G.2.2.1)).reverse ++ .ref (G.2.2.1 + a) :: rest.map (zsh G.2.2.1) := by
    simp [zsh]
  have hpv : PreV s H I.1.cls (G.2.2.1 + a) (zPc G (.ref a :: as) μ) (as.map (zsh G.2.2.1)) := ⟨zPc_blind _ _, va_recv C.2.2.2.2.2.1 hP (q := (I.1.cls, T, N)) hcl hat, z_pre C hP (.ref a :: as)⟩
  have hroom : (zrm d).frames + 1 ≤ (zrmC (d + 1) cl sl).frames ∧ 8 + (I.2.2.1 + 11) + (zrm d).locals ≤ (zrmC (d + 1) cl sl).locals := ⟨Nat.le_refl _, by show 8 + (I.2.2.1 + 11) + 40 * d ≤ 40 * (d + 1); omega⟩
  have hr2 : 2 * (F0 m pc ls (((.ref a :: as).reverse ++ rest).map (zsh G.2.2.1))).monitorRoom + ((rest.map (zsh G.2.2.1)).map fun v => v.category).sum ≤ 8 := lv_room (by rw [zcs_sh]; exact hw)
  rcases hlk with hlk | ⟨host, hlk⟩
  · refine z_after (va_runV (Ts := gdT) ⟨C.1, C.2.1, C.2.2.1, C.2.2.2.1, C.2.2.2.2.1⟩ hZ ⟨⟨rfl, rfl, hroom.1, hroom.2, zWs_good C hc, List.mem_cons_self, gd hc rfl, gd hini rfl, hmh, z_len hpl, gd hlk rfl⟩, gd hin rfl, gd hsel rfl⟩ hpv rfl (by simpa using hn) hL.1 hst hr2 hd ⟨Nat.le_refl _, Nat.le_refl _⟩) hS kk
  · refine z_after (va_runVN (Ts := gdT) ⟨C.1, C.2.1, C.2.2.1, C.2.2.2.1, C.2.2.2.2.1⟩ hZ ⟨⟨⟨rfl, rfl, hroom.1, hroom.2, zWs_good C hc, List.mem_cons_self⟩, gd hc rfl, gd hini rfl, hmh, z_len hpl, va_Nw.use rfl (C.2.2.2.2.2.2.1 _ hlk rfl)⟩, gd hin rfl, gd hsel rfl⟩ hpv rfl (by simpa using hn) hL.1 hst hr2 hd ⟨Nat.le_refl _, Nat.le_refl _⟩) hS kk
/-- a call of a static method -/
theorem z_callS (C : zCtx G own cc nL d K rt p l s m args meth c) {idx k n : Nat} {as : List Value} {I : ZI} (hI : zinfo k = I) (hs : zCS own idx I n) {P' : Option Value → ZM → Prop} (hK : K k as μ P') (hn : as.length = n) (hw : zcs rest ≤ 8)
    (hP : va_P G.1 vwCl (zw G μ) H) (hS : va_S (zA G) s.heap H locs) {L : List Value} (hL : zL G.2.2.1 ls nL L) (hd : decode cc pc = .ok (.invokestatic idx, 3)) {Q : State → Prop}
    (kk : ∀ (v : Option Value) (μ' : ZM) (H1 : Heap) (locs1 : List Loc), P' v μ' → va_P G.1 vwCl (zw G μ') H1 → va_S (zA G) s.heap H1 locs1 → W p l e (zrmC (d + 1) cl sl) s m args below meth c H1 locs1 cl sl Q (F0 m (pc + 3) ls ((v.map (zsh G.2.2.1)).toList ++ rest.map (zsh G.2.2.1)))) :
    W p l e (zrmC (d + 1) cl sl) s m args below meth c H locs cl sl Q (F0 m pc ls ((as.reverse ++ rest).map (zsh G.2.2.1))) := by
  obtain ⟨⟨hc, hini, hmh, hpl, hml, hlk⟩, hst9⟩ := hs
  have hZ : ZT l G d I as μ P' := by
    have := C.2.2.2.2.2.2.2.2.2 k as μ P' hK
    rw [hI] at this
    exact this
  have gd : ∀ {w : Cond}, w ∈ lw_tbl → goodWord w = true → w.before args s = true := fun h1 h2 => C.2.2.2.2.1 _ (z_gd h1 h2)
  have hst : (as.reverse ++ rest).map (zsh G.2.2.1) = (as.map (zsh G.2.2.1)).reverse ++ rest.map (zsh G.2.2.1) := by simp
  have hpv : PreS s H (zPc G as μ) (as.map (zsh G.2.2.1)) := ⟨zPc_blind _ _, z_pre C hP as⟩
  have hroom : (zrm d).frames + 1 ≤ (zrmC (d + 1) cl sl).frames ∧ 8 + (I.2.2.1 + 11) + (zrm d).locals ≤ (zrmC (d + 1) cl sl).locals := ⟨Nat.le_refl _, by show 8 + (I.2.2.1 + 11) + 40 * d ≤ 40 * (d + 1); omega⟩
  have hr2 : 2 * (F0 m pc ls ((as.reverse ++ rest).map (zsh G.2.2.1))).monitorRoom + ((rest.map (zsh G.2.2.1)).map fun v => v.category).sum ≤ 8 := lv_room (by rw [zcs_sh]; exact hw)
  rcases hlk with hlk | ⟨host, hlk⟩
  · refine z_after (va_runS (Ts := gdT) ⟨C.1, C.2.1, C.2.2.1, C.2.2.2.1, C.2.2.2.2.1⟩ hZ ⟨⟨rfl, rfl, hroom.1, hroom.2, zWs_good C hc, List.mem_cons_self, gd hc rfl, gd hini rfl, hmh, z_len hpl, gd hlk rfl⟩, gd hst9 rfl⟩ hpv rfl (by simpa using hn) hL.1 hst hr2 hd ⟨Nat.le_refl _, Nat.le_refl _⟩) hS kk
  · refine z_after (va_runSN (Ts := gdT) ⟨C.1, C.2.1, C.2.2.1, C.2.2.2.1, C.2.2.2.2.1⟩ hZ ⟨⟨⟨rfl, rfl, hroom.1, hroom.2, zWs_good C hc, List.mem_cons_self⟩, gd hc rfl, gd hini rfl, hmh, z_len hpl, va_Nw.use rfl (C.2.2.2.2.2.2.1 _ hlk rfl)⟩, gd hst9 rfl, trivial⟩ hpv rfl (by simpa using hn) hL.1 hst hr2 hd ⟨Nat.le_refl _, Nat.le_refl _⟩) hS kk
end ZC
