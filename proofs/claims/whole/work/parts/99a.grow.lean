/-! LAYER C: constructors. The object lies at b, its fields are fs (values of the machine); what it made lies behind it, b + 1, b + 2 .., of shapes Zt; all that it makes lies below b + n -/
def zgw (G0 : va_G × (Nat → ClassId) × Nat) (ci : Nat) (fs : List Value) (Zt : List ZD) (μ : ZM) : va_W := (G0.2.2, .inr (ci, fs)) :: Zt.mapIdx (fun i d => (G0.2.2 + (1 + i), zcell (G0.1, G0.2.1, G0.2.2, []) μ (1 + i) d))
def zgA (b n : Nat) : Nat → Prop := fun q => b ≤ q ∧ q < b + n
def gCtx (G0 : va_G × (Nat → ClassId) × Nat) (own : String) (cc : ByteArray) (nL : Nat) (p : Program) (s : State) (m : MethodId) (args : Array Value) (meth : Method) (c : Code) : Prop :=
  p.tables.exec = Jvm.exec ∧ c.code = cc ∧ c.maxLocals = nL ∧ s.vm.findClass own = some m.cls ∧ (∀ w ∈ gdT, w.before args s = true) ∧ zK (G0.1, G0.2.1, G0.2.2, []) s ∧ zNw s ∧ meth.locks = false ∧ meth.name = "<init>" ∧ meth.sig.returnType = none
def gW (G0 : va_G × (Nat → ClassId) × Nat) (n : Nat) (nL ci : Nat) (p : Program) (l : Launch) (e : Env) (R : Room) (s : State) (m : MethodId) (args : Array Value) (below : List Frame) (meth : Method) (c : Code) (Q : State → Prop) (cl sl pc : Nat) (fs : List Value) (Zt : List ZD) (μ : ZM) (st : List Value) : Prop :=
  ∀ (H : Heap) (locs : List Loc) (ls : Array Slot), H.size = G0.2.2 + (1 + Zt.length) → va_P G0.1 vwCl (zgw G0 ci fs Zt μ) H → va_S (zgA G0.2.2 n) s.heap H locs → zL G0.2.2 ls nL [.ref 0] →
    W p l e R s m args below meth c H locs cl sl Q (F0 m pc ls st)
theorem zgw_in {G0 : va_G × (Nat → ClassId) × Nat} {ci : Nat} {fs : List Value} {Zt : List ZD} {μ : ZM} {i : Nat} {q : Nat × va_E} (h : (zgw G0 ci fs Zt μ)[i]? = some q) : q.1 = G0.2.2 + i ∧ i < 1 + Zt.length := by
  cases i with
  | zero => cases h; exact ⟨rfl, by omega⟩
  | succ i =>
    simp only [zgw, List.getElem?_cons_succ, List.getElem?_mapIdx] at h
    cases hd : Zt[i]? with
    | none => rw [hd] at h; cases h
    | some d =>
      rw [hd] at h
      have := (List.getElem?_eq_some_iff.mp hd).1
      rw [← Option.some.inj h]
      exact ⟨by show G0.2.2 + (1 + i) = _; omega, by omega⟩
theorem zgw_D {G0 : va_G × (Nat → ClassId) × Nat} {ci : Nat} {fs : List Value} {Zt : List ZD} {μ : ZM} {n : Nat} (hn : 1 + Zt.length ≤ n) : va_D (zgA G0.2.2 n) (zgw G0 ci fs Zt μ) := by
  refine ⟨fun i j x y hi hj hxy => ?_, fun k q hk => ?_⟩
  · have h1 := zgw_in hi
    have h2 := zgw_in hj
    omega
  · have h1 := zgw_in hk
    exact ⟨by omega, by omega⟩
-- out of claim/NAMES.whole.lean.txt
theorem vr_outer (c : ClassId) (N h0 : Nat) : ∀ i : Nat, Jvm.Free.Multi.outerC c N h0 i = arrV c N (fun j => va_rf (if j < i then some (h0 + 1 + j) else none))
  | 0 => by
    show ({ cls := c, slots := Array.replicate N .null, vm := .none } : Cell) = _
    rw [arrV_new]
    refine congrArg (arrV c N) (funext fun j => ?_)
    simp [va_rf]
  | i + 1 => by
    show (Jvm.Free.Multi.outerC c N h0 i).setSlot i (.ref (h0 + 1 + i)) = _
    rw [vr_outer c N h0 i, arrV_store]
    refine congrArg (arrV c N) (funext fun j => ?_)
    by_cases e : j = i
    · subst e
      simp [updV, va_rf]
    · by_cases h : j < i
      · simp [updV, e, h, Nat.lt_succ_of_lt h]
      · simp [updV, e, h, show ¬ j < i + 1 by omega]
section ZG
variable {p : Program} {l : Launch} {e : Env} {R : Room} {s : State} {m : MethodId} {args : Array Value} {below : List Frame} {meth : Method} {c : Code} {Q : State → Prop}
variable {G0 : va_G × (Nat → ClassId) × Nat} {own : String} {cc : ByteArray} {n nL ci cl sl pc : Nat} {fs : List Value} {Zt : List ZD} {μ : ZM} {st : List Value}
theorem g_aload0 (C : gCtx G0 own cc nL p s m args meth c) (hd : decode cc pc = .ok (.aload_n 0, 1)) (k : gW G0 n nL ci p l e R s m args below meth c Q cl sl (pc + 1) fs Zt μ (.ref G0.2.2 :: st)) : gW G0 n nL ci p l e R s m args below meth c Q cl sl pc fs Zt μ st := by
  intro H locs ls hz hP hS hL
  exact lv_aload_n C.1 C.2.1 hd rfl (zL_at hL (i := 0) (v := .ref 0) rfl (fun h => by cases h)) (k H locs ls hz hP hS hL)
theorem g_iconst {i : Int} {v : Int32} (C : gCtx G0 own cc nL p s m args meth c) (hv : Int32.ofInt i = v) (hd : decode cc pc = .ok (.iconst i, 1)) (k : gW G0 n nL ci p l e R s m args below meth c Q cl sl (pc + 1) fs Zt μ (.int v :: st)) : gW G0 n nL ci p l e R s m args below meth c Q cl sl pc fs Zt μ st := by
  intro H locs ls hz hP hS hL
  exact lv_iconst C.1 C.2.1 hd hv (k H locs ls hz hP hS hL)
theorem g_bipush {i : Int} {v : Int32} (C : gCtx G0 own cc nL p s m args meth c) (hv : (Int8.ofInt i).toInt32 = v) (hd : decode cc pc = .ok (.bipush i, 2)) (k : gW G0 n nL ci p l e R s m args below meth c Q cl sl (pc + 2) fs Zt μ (.int v :: st)) : gW G0 n nL ci p l e R s m args below meth c Q cl sl pc fs Zt μ st := by
  intro H locs ls hz hP hS hL
  exact lv_bipush C.1 C.2.1 hd hv (k H locs ls hz hP hS hL)
theorem g_sipush {i : Int} {v : Int32} (C : gCtx G0 own cc nL p s m args meth c) (hv : (Int16.ofInt i).toInt32 = v) (hd : decode cc pc = .ok (.sipush i, 3)) (k : gW G0 n nL ci p l e R s m args below meth c Q cl sl (pc + 3) fs Zt μ (.int v :: st)) : gW G0 n nL ci p l e R s m args below meth c Q cl sl pc fs Zt μ st := by
  intro H locs ls hz hP hS hL
  exact lv_sipush C.1 C.2.1 hd hv (k H locs ls hz hP hS hL)
theorem g_dup {v : Value} (C : gCtx G0 own cc nL p s m args meth c) (hv : v.category = 1) (hd : decode cc pc = .ok (.dup, 1)) (k : gW G0 n nL ci p l e R s m args below meth c Q cl sl (pc + 1) fs Zt μ (v :: v :: st)) : gW G0 n nL ci p l e R s m args below meth c Q cl sl pc fs Zt μ (v :: st) := by
  intro H locs ls hz hP hS hL
  exact lv_dup C.1 C.2.1 hd hv (k H locs ls hz hP hS hL)
theorem g_obj {idx : Nat} (C : gCtx G0 own cc nL p s m args meth c) (h1 : Cond.methodLink own idx objectInit ∈ lw_tbl) (h2 : Cond.instanceMethod objectInit ∈ lw_tbl) (h3 : Cond.code objectInit ⟨#[0xb1]⟩ 1 none ∈ lw_tbl) (hR : 1 ≤ R.frames ∧ 12 ≤ R.locals) (hd : decode cc pc = .ok (.invokespecial idx, 3)) {a : Nat} (k : gW G0 n nL ci p l e R s m args below meth c Q cl sl (pc + 3) fs Zt μ []) : gW G0 n nL ci p l e R s m args below meth c Q cl sl pc fs Zt μ [.ref a] := by
  intro H locs ls hz hP hS hL
  have gd : ∀ {w : Cond}, w ∈ lw_tbl → goodWord w = true → w.before args s = true := fun h1 h2 => C.2.2.2.2.1 _ (z_gd h1 h2)
  refine W.objInit C.1 C.2.1 C.2.2.2.1 (gd h1 rfl) (gd h2 rfl) (gd h3 rfl) rfl (hL.1.trans C.2.2.1.symm) rfl hd hR.1 (by show 2 * 0 + 0 + 12 ≤ _; omega) ?_
  exact k H locs ls hz hP hS hL
/-- new T[k] -/
theorem g_newa {t k : Nat} {v : Int32} {at_ : ArrayType} {ty : FieldType} (C : gCtx G0 own cc nL p s m args meth c) (hty : newarray.typeOf at_ = ty) (htt : (ztys (G0.1, G0.2.1, G0.2.2, []))[t]? = some (G0.2.1 t, ty)) (hra : ∀ cA, s.vm.findClass ("[" ++ ty.toString) = some cA → cA = G0.2.1 t) (hw : Cond.arrayClass ty ∈ lw_tbl) (hcell : ∀ cA, arrV cA k (fun _ => defaultValue ty) = vp_cell cA (zar G0.2.2 μ (1 + Zt.length) t k 0))
    (hn : ¬ v < 0) (hN : v.toNatClampNeg = k) (hby : k * componentBytes ty ≤ 536870912) (hc : cl + 1 ≤ R.cells) (hs : sl + k ≤ R.slots) (hd : decode cc pc = .ok (.newarray at_, 2))
    (kk : gW G0 n nL ci p l e R s m args below meth c Q (cl + 1) (sl + k) (pc + 2) fs (Zt ++ [.inr (t, k, 0)]) μ (.ref (G0.2.2 + (1 + Zt.length)) :: st)) : gW G0 n nL ci p l e R s m args below meth c Q cl sl pc fs Zt μ (.int v :: st) := by
  intro H locs ls hz hP hS hL
  subst hty
  refine va_newaK C.1 C.2.1 (C.2.2.2.2.1 _ (z_gd hw rfl)) rfl hd rfl hn hN hby hc hs hz (fun H' cA h1 h2 h3 h4 h5 => ?_)
  have hcA := hra cA h5
  subst hcA
  have hlt : ∀ (i : Nat) (q : Nat × va_E), (zgw G0 ci fs Zt μ)[i]? = some q → q.1 < H.size := fun i q hq => by
    have := zgw_in hq
    omega
  refine kk H' locs ls (by rw [h2, List.length_append]; show _ = G0.2.2 + (1 + (Zt.length + 1)); omega) ?_ ⟨by have := hS.1; omega, fun q a1 a2 => by rw [h3 q (by have := hS.1; omega)]; exact hS.2.1 q a1 a2, hS.2.2⟩ hL
  have hw2 : zgw G0 ci fs (Zt ++ [.inr (t, k, 0)]) μ = zgw G0 ci fs Zt μ ++ [(G0.2.2 + (1 + Zt.length), .inl (G0.2.1 t, zar G0.2.2 μ (1 + Zt.length) t k 0))] := by
    simp [zgw, List.mapIdx_append, zcell]
  rw [hw2]
  refine va_P.app (hP.kept (fun i q hq => h3 _ (by rw [← hz]; exact hlt i q hq))) (fun i q hq => ?_)
  have h0 : i < 1 := (List.getElem?_eq_some_iff.mp hq).1
  rw [show i = 0 by omega] at hq
  cases hq
  show H'[_]? = some _
  rw [h1, hcell]
/-- a final field that holds a reference -/
theorem g_put {idx k : Nat} {r : Nat} {T : u_T} {N : Nat} {ty : FieldType} (C : gCtx G0 own cc nL p s m args meth c) (hcls : zCls ci own T N) (hk : k < N) (hty : parseFieldDescriptor (T k).2.2.1 = some ty) (hlk : Cond.fieldLink own idx own (T k).2.1 (T k).2.2.1 ∈ lw_tbl) (hown : (T k).1 = own) (hfin : (T k).2.2.2 = true) (hnr : narrow ty (.ref r) = .ref r) (hfit : fits ty (.ref r) = true) (hl : k < fs.length) (hn : 1 + Zt.length ≤ n) (hd : decode cc pc = .ok (.putfield idx, 3))
    (kk : gW G0 n nL ci p l e R s m args below meth c Q cl sl (pc + 3) (fs.set k (.ref r)) Zt μ st) : gW G0 n nL ci p l e R s m args below meth c Q cl sl pc fs Zt μ (.ref r :: .ref G0.2.2 :: st) := by
  intro H locs ls hz hP hS hL
  obtain ⟨h1, h2, h3, ty0, h4⟩ := hcls
  have hts := C.2.2.2.2.1
  have hK : va_K G0.1 vwCl (ztys (G0.1, G0.2.1, G0.2.2, [])) s := C.2.2.2.2.2.1
  have hap := va_apart (own := own) hts h2 ty0 h4 h3 hK h1
  obtain ⟨r', g1, cell, q1, q2, q3, q4⟩ := hP 0 (G0.2.2, .inr (ci, fs)) rfl
  have hr : r' = (own, T, N) := Option.some.inj (g1.symm.trans h1)
  subst hr
  obtain ⟨hSl, hfc, kC, hkC, hkind⟩ := hK.1 ci _ h1
  obtain ⟨cf, kf, fi, f, hi, hsl⟩ := hSl k hk
  have hlay := hts _ (h2 _ (u_in_lay hk))
  unfold u_lay at hlay
  rw [if_pos hfin] at hlay
  have hst := (u_facts hfc hkC (u_lays hts h2 hk) hi).1
  have hcf : m.cls = cf := by
    obtain ⟨_, _, c', _, _, _, -, -, hf', -, -, -, hown2, -⟩ := Cond.laysFinal_spec hlay
    have e1 : c' = cf := by have := hi.symm.trans hf'; simp at this; exact this.1.symm
    rw [hown] at hown2
    rw [← e1]; exact Option.some.inj (C.2.2.2.1.symm.trans hown2)
  have h6 := u_fits hfc hkC hkind (Or.inr hlay) hi hty hnr hfit
  refine W.putFinK C.1 C.2.1 C.2.2.2.1 (hts _ (z_gd hlk rfl)) (by rw [hown] at hi; exact hi) hst hcf C.2.2.2.2.2.2.2.2.1 (by rw [q2]; exact h6) q1 q3 (by rw [hsl]; exact k2_hasslot (q4 k hk)) rfl rfl hd fun H' e1 e2 e3 => ?_
  rw [hsl] at e1 ⊢
  exact kk H' _ ls (by rw [e2]; exact hz) (hP.set (zgw_D (n := n) hn) (p := 0) rfl ⟨_, h1, t_OB.to (V := updV (vp_V fs) k (.ref r)) ⟨_, e1, q2, q3, t_set q4 hap hk _⟩ (fun j _ => vp_updV_set hl _ j)⟩ e3) (hS.put e2 e3 ⟨Nat.le_refl _, by show G0.2.2 < G0.2.2 + n; omega⟩) hL
/-- a store into a row of ints that was made here -/
theorem g_iast {j k q : Nat} {i x : Int32} (C : gCtx G0 own cc nL p s m args meth c) (hz1 : Zt[j]? = some (.inr (0, k, q))) (hin : vp_in i k) (hn : 1 + Zt.length ≤ n) (hd : decode cc pc = .ok (.iastore, 1))
    (kk : gW G0 n nL ci p l e R s m args below meth c Q cl sl (pc + 1) fs Zt (zset μ (1 + j) i.toNatClampNeg x) st) : gW G0 n nL ci p l e R s m args below meth c Q cl sl pc fs Zt μ (.int x :: .int i :: .ref (G0.2.2 + (1 + j)) :: st) := by
  intro H locs ls hz hP hS hL
  have hj : j < Zt.length := (List.getElem?_eq_some_iff.mp hz1).1
  have hat : (zgw G0 ci fs Zt μ)[j + 1]? = some (G0.2.2 + (1 + j), .inl (G0.2.1 0, k, .inl (μ.1 (1 + j)))) := by
    simp [zgw, List.getElem?_mapIdx, hz1, zcell, zar]
  have harr : ArrOfT s (G0.2.1 0) .int := (C.2.2.2.2.2.1.2 0 _ rfl).1
  refine W.iast C.1 C.2.1 (hP _ _ hat) (harr k (fun j => .int (μ.1 _ j))) (fun q => by cases q) (by show ¬ (i < 0 ∨ (arrV _ _ _).slots.size ≤ _); rw [arrV_size]; exact hin) rfl rfl hd fun H1 e z oq => ?_
  refine kk H1 _ ls (by rw [z]; exact hz) ?_ (hS.put z oq ⟨by omega, by omega⟩) hL
  have h9 := hP.set (zgw_D (n := n) hn) hat (e := .inl (G0.2.1 0, k, .inl (upd (μ.1 (1 + j)) i.toNatClampNeg x))) (by
    show H1[_]? = some (vp_cell _ _)
    rw [e, vp_cell_i, arrV_store]
    refine congrArg some ?_
    show arrV (G0.2.1 0) k _ = arrV (G0.2.1 0) k (fun w => .int (upd (μ.1 (1 + j)) i.toNatClampNeg x w))
    refine congrArg (arrV (G0.2.1 0) k) (funext fun w => ?_)
    by_cases hw : w = i.toNatClampNeg
    · subst hw; simp [updV, upd]
    · simp [updV, upd, hw]) oq
  have hw : (zgw G0 ci fs Zt μ).set (j + 1) (G0.2.2 + (1 + j), .inl (G0.2.1 0, k, .inl (upd (μ.1 (1 + j)) i.toNatClampNeg x))) = zgw G0 ci fs Zt (zset μ (1 + j) i.toNatClampNeg x) := by
    unfold zgw
    rw [List.set_cons_succ]
    congr 1
    apply List.ext_getElem?
    intro w
    by_cases hw : j = w
    · subst hw
      rw [List.getElem?_set_self (by rw [List.length_mapIdx]; exact hj)]
      simp [List.getElem?_mapIdx, hz1, zcell, zar, zset]
    · rw [List.getElem?_set_ne hw]
      simp only [List.getElem?_mapIdx]
      cases hd : Zt[w]? with
      | none => rfl
      | some d' =>
        simp only [Option.map_some]
        rw [zcell_off (μ := μ) (μ' := zset μ (1 + j) i.toNatClampNeg x) (zset_ne μ _ _ (by omega)) rfl d']
  rw [hw] at h9
  exact h9
/-- new int[N][K] -/
theorem g_mna {idx N K : Nat} {u v : Int32} (C : gCtx G0 own cc nL p s m args meth c) (hcl : Cond.classLink own idx ("[" ++ (FieldType.array .int).toString) ∈ lw_tbl) (hov : (Cond.arrayOver (.array .int)).before args s = true) (hw : Cond.arrayClass .int ∈ lw_tbl) (hra : ∀ cA, s.vm.findClass (FieldType.array .int).toString = some cA → cA = G0.2.1 0) (hrA : ∀ cA, s.vm.findClass ("[" ++ (FieldType.array .int).toString) = some cA → cA = G0.2.1 4)
    (hN : u.toNatClampNeg = N) (hK : v.toNatClampNeg = K) (hu : ¬ u < 0) (hv : ¬ v < 0) (hb : N * 4 ≤ 536870912 ∧ K * 4 ≤ 536870912) (hμ : ∀ i, i < N → μ.1 (1 + Zt.length + 1 + i) = fun _ => 0) (hc : cl + (1 + N) ≤ R.cells) (hs : sl + (N + N * K) ≤ R.slots) (hd : decode cc pc = .ok (.multianewarray idx 2, 4))
    (kk : gW G0 n nL ci p l e R s m args below meth c Q (cl + 1 + N) (sl + N + N * K) (pc + 4) fs (Zt ++ .inr (4, N, 1 + Zt.length + 1) :: List.replicate N (.inr (0, K, 0))) μ (.ref (G0.2.2 + (1 + Zt.length)) :: st)) : gW G0 n nL ci p l e R s m args below meth c Q cl sl pc fs Zt μ (.int v :: .int u :: st) := by
  intro H locs ls hz hP hS hL T hT X
  have gd : ∀ {w : Cond}, w ∈ lw_tbl → goodWord w = true → w.before args s = true := fun h1 h2 => C.2.2.2.2.1 _ (z_gd h1 h2)
  obtain ⟨vm₁, cA, cy, -, fA, fC, hO, -, X', step⟩ := X.multianewarray2F C.1 C.2.2.2.1 (gd hcl rfl) hov (gd hw rfl) (g := F0 m pc ls (.int v :: .int u :: st)) rfl (by rw [C.2.1]; exact hd) rfl hu hv (by rw [hN]; exact hb.1) (by rw [hK]; exact hb.2) (by rw [hK]; omega) rfl rfl (by rw [hN]; exact hc) (by rw [hN, hK]; exact hs)
  have e1 := hrA cA fA
  have e2 := hra cy fC
  subst e1
  subst e2
  rw [hN, hK] at X' step
  generalize hF : Jvm.Free.Multi.fill (T.setVm vm₁) (G0.2.1 4) (G0.2.1 0) N K (defaultValue .int) N = F at X' step
  have hTh : (T.setVm vm₁).heap = H := hT
  obtain ⟨f1, f2, -, -⟩ := Jvm.Free.Multi.fill_facts (T.setVm vm₁) (G0.2.1 4) (G0.2.1 0) N K (defaultValue .int) N
  rw [hF, hTh] at f1 f2
  have hold : ∀ x : Nat, x < H.size → F.heap[x]? = H[x]? := fun x hx => by
    have := Jvm.Free.Multi.fill_old (T.setVm vm₁) (G0.2.1 4) (G0.2.1 0) N K (defaultValue .int) (a := x) (by rw [hTh]; exact hx) N
    rw [hF, hTh] at this
    exact this
  have hrow : ∀ j : Nat, j < N → F.heap[H.size + 1 + j]? = some (Jvm.Free.Multi.innerC (G0.2.1 0) K (defaultValue .int)) := fun j hj => by
    have := Jvm.Free.Multi.fill_inner (T.setVm vm₁) (G0.2.1 4) (G0.2.1 0) N K (defaultValue .int) N j hj
    rw [hF, hTh] at this
    exact this
  rw [vr_outer] at f2
  have hlt : ∀ (i : Nat) (q : Nat × va_E), (zgw G0 ci fs Zt μ)[i]? = some q → q.1 < H.size := fun i q hq => by
    have := zgw_in hq
    omega
  have hlen : (Zt ++ .inr (4, N, 1 + Zt.length + 1) :: List.replicate N (.inr (0, K, 0)) : List ZD).length = Zt.length + 1 + N := by
    simp; omega
  have hP2 : va_P G0.1 vwCl (zgw G0 ci fs (Zt ++ .inr (4, N, 1 + Zt.length + 1) :: List.replicate N (.inr (0, K, 0))) μ) F.heap := by
    intro i q hq
    have hi := zgw_in hq
    by_cases h0 : i < 1 + Zt.length
    · have hq2 : (zgw G0 ci fs Zt μ)[i]? = some q := by
        rw [← hq]
        cases i with
        | zero => rfl
        | succ i =>
          simp only [zgw, List.getElem?_cons_succ, List.getElem?_mapIdx]
          rw [List.getElem?_append_left (by omega)]
      exact (hP i q hq2).kept (hold _ (hlt i q hq2))
    · obtain ⟨j, rfl⟩ : ∃ j, i = Zt.length + j + 1 := ⟨i - Zt.length - 1, by omega⟩
      simp only [zgw, List.getElem?_cons_succ, List.getElem?_mapIdx] at hq
      rw [List.getElem?_append_right (by omega), show Zt.length + j - Zt.length = j by omega] at hq
      cases j with
      | zero =>
        cases hq
        show F.heap[_]? = some (vp_cell _ _)
        rw [show G0.2.2 + (1 + (Zt.length + 0)) = H.size by omega, f2]
        show some (arrV (G0.2.1 4) N _) = some (arrV (G0.2.1 4) N (fun x => va_rf (some (G0.2.2 + (1 + Zt.length + 1 + x)))))
        congr 1
        unfold arrV
        congr 1
        apply congrArg
        funext x
        have hx := x.isLt
        simp only [hx, if_true]
        show va_rf _ = va_rf _
        congr 2
        show H.size + 1 + x.val = G0.2.2 + (1 + Zt.length + 1 + x.val)
        omega
      | succ j =>
        simp only [List.getElem?_cons_succ] at hq
        have hj : j < N := by rw [hlen] at hi; omega
        rw [List.getElem?_replicate, if_pos hj] at hq
        cases hq
        show F.heap[_]? = some (vp_cell _ _)
        rw [show G0.2.2 + (1 + (Zt.length + (j + 1))) = H.size + 1 + j by omega, hrow j hj]
        have hm := hμ j hj
        rw [show 1 + Zt.length + 1 + j = 1 + (Zt.length + (j + 1)) by omega] at hm
        show some _ = some (arrV _ _ (fun x => .int (μ.1 _ x)))
        rw [hm]
        congr 1
        exact arrV_new _ _ _
  obtain ⟨t, a1, b1⟩ := kk F.heap locs ls (by rw [f1, hlen]; omega) hP2 ⟨by rw [f1]; have := hS.1; omega, fun x h1 h2 => (hold x (Nat.lt_of_lt_of_le h1 hS.1)).trans (hS.2.1 x h1 h2), hS.2.2⟩ hL F rfl X'
  refine ⟨t, step t ?_, b1⟩
  have e : T.heap.size = G0.2.2 + (1 + Zt.length) := by rw [hT]; exact hz
  rw [e]
  exact a1
end ZG
