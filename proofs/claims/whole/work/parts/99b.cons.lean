/-! LAYER C: a constructor's contract; new C() inside a constructor -/
def zOv (U : State) : Prop := (Cond.arrayOver (.array .int)).before #[] U = true
theorem zOv.args {U : State} (h : zOv U) (args : Array Value) : (Cond.arrayOver (.array .int)).before args U = true := by
  unfold zOv at h
  simp only [Cond.before, Cond.holds, Cond.value] at h ⊢
  exact h
theorem zOv.of {U : State} {args : Array Value} (h : (Cond.arrayOver (.array .int)).before args U = true) : zOv U := by
  unfold zOv
  simp only [Cond.before, Cond.holds, Cond.value] at h ⊢
  exact h
theorem zOv.same {u U : State} (hv : u.vm = U.vm) (h : zOv u) : zOv U := by
  unfold zOv at h ⊢
  simp only [Cond.before, Cond.holds, Cond.value] at h ⊢
  rw [← hv]
  exact h
theorem zOv.warm {s U : State} (hW : s.WarmedH U.vm) (h : zOv s) : zOv U := by
  have h1 : zOv (s.setVm U.vm) := by
    unfold zOv
    rw [Cond.arrayOver_setVmC hW.alike]
    exact h
  exact zOv.same (u := s.setVm U.vm) rfl h1
def zM0 : ZM := (fun _ _ => 0, fun _ _ => 0)
def zNPc (G : ZG) (ci : Nat) (fs : List Value) : Array Value → State → Prop := va_Pc [.ref G.2.2.1] (fun U => U.heap.size = G.2.2.1 + 1 ∧ va_P G.1 vwCl [(G.2.2.1, .inr (ci, fs))] U.heap ∧ zK G U ∧ zNw U ∧ zOv U)
def zNP (P : ZM → Prop) : Option Value → ZM → Prop := fun v μ => v = none ∧ P μ
/-- constructor I, called for a fresh object (the last cell) with the fields fs: it makes G's cells, CL behind the object, with SL slots; what they hold is P -/
def ZN (l : Launch) (G : ZG) (d ci : Nat) (fs : List Value) (I : ZI) (CL SL : Nat) (P : ZM → Prop) : Prop := Met l I.1 (zWs I) (zrmC d CL SL) (zNPc G ci fs) (zQ G (zNP P)) CL SL (zA G)
theorem zNPc_blind (G : ZG) (ci : Nat) (fs : List Value) : FrameBlind (zNPc G ci fs) := fun a U g mk q => ⟨q.1, q.2.1, q.2.2.1, va_K.moved (u := U) (U := U.calling g mk a) (Vm.Alike.refl U.vm) q.2.2.2.1, zNw.same (u := U) (U := U.calling g mk a) rfl q.2.2.2.2.1, zOv.same (u := U) (U := U.calling g mk a) rfl q.2.2.2.2.2⟩
theorem ZN.of {l : Launch} {G : ZG} {d ci : Nat} {fs : List Value} {I : ZI} {CL SL : Nat} {P : ZM → Prop} (hy : plainName I.1.cls = true) (hnm : I.1.name = "<init>") (hr : I.2.2.2 = none) (hnL : 1 ≤ I.2.2.1)
    (h : ∀ (p : Program) (e : Env) (s : State) (m : MethodId) (args : Array Value) (below : List Frame) (meth : Method) (c : Code), gCtx (G.1, G.2.1, G.2.2.1) I.1.cls I.2.1 I.2.2.1 p s m args meth c → zOv s → s.heap.size = G.2.2.1 + 1 →
      gW (G.1, G.2.1, G.2.2.1) G.2.2.2.length I.2.2.1 ci p l e (zrmC d CL SL) s m args below meth c (MQ below (zQ G (zNP P)) args s CL SL (zA G)) 0 0 0 fs [] zM0 []) : ZN l G d ci fs I CL SL P := by
  refine Met.ofW (cc := I.2.1) (maxL := I.2.2.1) (ret := I.2.2.2) hy rfl ?_
  intro p e s m args below meth c s₁ B hml hv
  obtain ⟨rfl, hsz, hP, hK, hN, hO⟩ := hv
  have hts := atoms_spec (ws := zWs I) B.pre
  have hn := (name_of_methodNamed B.named B.method).1
  have C : gCtx (G.1, G.2.1, G.2.2.1) I.1.cls I.2.1 I.2.2.1 p s m ([Value.ref G.2.2.1].toArray) meth c := ⟨B.exec, B.bytes, hml, findClass_of_methodNamed B.named, fun w hw => hts w (List.mem_cons_of_mem _ hw), hK, hN, B.notSynchronized, hn.trans hnm, B.returns.trans hr⟩
  have hl := lv_entry ([.ref G.2.2.1] : List Value) (n := I.2.2.1) hnL
  rw [lg_entry_eq]
  generalize (lg_sl ([.ref G.2.2.1] : List Value) ++ List.replicate (I.2.2.1 - (lg_sl ([.ref G.2.2.1] : List Value)).length) Slot.unset).toArray = ls at hl ⊢
  have hL : zL G.2.2.1 ls I.2.2.1 [.ref 0] := by
    refine ⟨hl.1, hl.2.1, fun i v h => ?_, fun i v h hc => ?_⟩
    · cases i with
      | succ i => cases h
      | zero => cases h; exact Or.inr (by simpa [zsh] using hl.2.2 _ List.mem_cons_self)
    · cases i with
      | succ i => cases h
      | zero => cases h; cases hc
  exact h p e s m _ below meth c C hO hsz s.heap [] ls hsz hP va_S.rf hL
/-- what one made, seen from another's object -/
def zsd (o : Nat) : ZD → ZD
  | .inl (ci, fs) => .inl (ci, fs.map (Option.map (Option.map (o + ·))))
  | .inr (t, n, r) => .inr (t, n, if t = 4 then o + r else r)
def zjn (μ : ZM) (o n : Nat) (μc : ZM) : ZM := (fun a => if o ≤ a ∧ a < o + n then μc.1 (a - o) else μ.1 a, fun a => if o ≤ a ∧ a < o + n then μc.2 (a - o) else μ.2 a)
theorem zjn_in {μ μc : ZM} {o n a : Nat} (h : a < n) : (zjn μ o n μc).1 (o + a) = μc.1 a ∧ (zjn μ o n μc).2 (o + a) = μc.2 a := by
  have hc : o ≤ o + a ∧ o + a < o + n := by omega
  unfold zjn
  dsimp only
  rw [if_pos hc, if_pos hc, Nat.add_sub_cancel_left]
  exact ⟨rfl, rfl⟩
theorem zjn_out {μ μc : ZM} {o n a : Nat} (h : a < o) : (zjn μ o n μc).1 a = μ.1 a ∧ (zjn μ o n μc).2 a = μ.2 a := by
  have hc : ¬ (o ≤ a ∧ a < o + n) := by omega
  unfold zjn
  dsimp only
  rw [if_neg hc, if_neg hc]
  exact ⟨rfl, rfl⟩
theorem zcell_sd {D : va_G} {ty : Nat → ClassId} {b o n a : Nat} {Z Z' : List ZD} {μ μc : ZM} (h : a < n) (d : ZD) : zcell (D, ty, b, Z) (zjn μ o n μc) (o + a) (zsd o d) = zcell (D, ty, b + o, Z') μc a d := by
  obtain ⟨h1, h2⟩ := zjn_in (μ := μ) (μc := μc) (o := o) h
  cases d with
  | inl x =>
    obtain ⟨ci, fs⟩ := x
    show Sum.inr (ci, _) = Sum.inr (ci, _)
    congr 2
    show List.mapIdx _ (fs.map _) = List.mapIdx _ fs
    apply List.ext_getElem?
    intro i
    rw [List.getElem?_mapIdx, List.getElem?_mapIdx, List.getElem?_map]
    cases fs[i]? with
    | none => rfl
    | some q =>
      show some (zfv b _ _ _ _) = some (zfv (b + o) _ _ _ _)
      congr 1
      match q with
      | none => show Value.int _ = Value.int _; rw [h1]
      | some none => show Value.long _ = Value.long _; rw [h2]
      | some (some r) => show Value.ref (b + (o + r)) = Value.ref (b + o + r); rw [Nat.add_assoc]
  | inr x =>
    obtain ⟨t, m, r⟩ := x
    show Sum.inl (ty t, _) = Sum.inl (ty t, _)
    congr 2
    show zar b _ (o + a) t m _ = zar (b + o) μc a t m r
    unfold zar
    rw [h1, h2]
    congr 1
    match t with
    | 0 => rfl
    | 1 => rfl
    | 2 => rfl
    | 3 => rfl
    | 4 =>
      rw [if_pos rfl]
      show Sum.inr (Sum.inr (Sum.inr (Sum.inr _))) = Sum.inr (Sum.inr (Sum.inr (Sum.inr _)))
      congr 4
      funext j
      congr 1
      omega
    | t + 5 => rfl
theorem zgw_join {G0 : va_G × (Nat → ClassId) × Nat} {ci : Nat} {fs : List Value} {Zt Zc : List ZD} {μ μc : ZM} : zgw G0 ci fs (Zt ++ Zc.map (zsd (1 + Zt.length))) (zjn μ (1 + Zt.length) Zc.length μc) = zgw G0 ci fs Zt μ ++ zw (G0.1, G0.2.1, G0.2.2 + (1 + Zt.length), Zc) μc := by
  unfold zgw zw
  rw [List.cons_append, List.mapIdx_append]
  congr 2
  · apply List.ext_getElem?
    intro i
    rw [List.getElem?_mapIdx, List.getElem?_mapIdx]
    cases hd : Zt[i]? with
    | none => rfl
    | some d =>
      have hi := (List.getElem?_eq_some_iff.mp hd).1
      simp only [Option.map_some]
      obtain ⟨h1, h2⟩ := zjn_out (μ := μ) (μc := μc) (o := 1 + Zt.length) (n := Zc.length) (a := 1 + i) (by omega)
      rw [zcell_off h1 h2]
  · apply List.ext_getElem?
    intro i
    simp only [List.getElem?_mapIdx, List.getElem?_map]
    cases hd : Zc[i]? with
    | none => rfl
    | some d =>
      have hi := (List.getElem?_eq_some_iff.mp hd).1
      simp only [Option.map_some]
      rw [show 1 + (i + Zt.length) = 1 + Zt.length + i by omega, zcell_sd (Z' := Zc) hi]
      congr 2
      omega
section ZN
variable {p : Program} {l : Launch} {e : Env} {R : Room} {s : State} {m : MethodId} {args : Array Value} {below : List Frame} {meth : Method} {c : Code} {Q : State → Prop}
variable {G0 : va_G × (Nat → ClassId) × Nat} {own : String} {cc : ByteArray} {n nL ci cl sl pc : Nat} {fs : List Value} {Zt : List ZD} {μ : ZM} {st : List Value}
/-- what a call new C() wants of the tables -/
def zCN (own : String) (i1 i2 : Nat) (I : ZI) (N : Nat) : Prop := Cond.code I.1 I.2.1 I.2.2.1 I.2.2.2 ∈ lw_tbl ∧ I.2.2.2 = none ∧ Cond.initialized I.1.cls ∈ lw_tbl ∧ (I.1.cls ≠ "java/lang/invoke/MethodHandle" ∧ I.1.cls ≠ "java/lang/invoke/VarHandle") ∧ (parseMethodDescriptor I.1.desc).map (fun d => d.parameters.length) = some 0 ∧ I.1.name = "<init>" ∧ (Cond.methodLink own i2 I.1 ∈ lw_tbl ∨ ∃ host, Cond.methodLinkNest own i2 I.1 host ∈ lw_tbl) ∧ Cond.instanceMethod I.1 ∈ lw_tbl ∧ Cond.classLink own i1 I.1.cls ∈ lw_tbl ∧ Cond.instantiable I.1.cls N ∈ lw_tbl
/-- new C() behind other cells: H0 has the size h; n a new object there, its cells behind it -/
theorem z_newcall {d cj h i1 i2 CL SL N : Nat} {Z : List ZD} {fc : List Value} {I : ZI} {T : u_T} {P : ZM → Prop} {H : Heap} {locs : List Loc} {ls : Array Slot} {A : Nat → Prop} (hx : p.tables.exec = Jvm.exec) (hb : c.code = cc) (hml : c.maxLocals = nL) (hown : s.vm.findClass own = some m.cls) (hts : ∀ w ∈ gdT, w.before args s = true) (hK : zK (G0.1, G0.2.1, G0.2.2, []) s) (hNw : zNw s) (hO : zOv s)
    (hM : ZN l (G0.1, G0.2.1, h, Z) d cj fc I CL SL P) (hw : zCN own i1 i2 I N) (hcls : vwCl[cj]? = some (I.1.cls, T, N)) (hin : ∀ w ∈ u_ws I.1.cls T N, w ∈ gdT) (ty : Nat → FieldType) (hty : ∀ k, k < N → parseFieldDescriptor (T k).2.2.1 = some (ty k)) (hfs : ∀ j, j < N → defaultValue (ty j) = vp_V fc j) (hZ : CL + 1 = Z.length)
    (hcR : cl + 1 + CL ≤ R.cells) (hsR : sl + N + SL ≤ R.slots) (hfR : d + 1 ≤ R.frames) (hlR : 8 + (I.2.2.1 + 11) + 40 * d ≤ R.locals) (hd1 : decode cc pc = .ok (.new i1, 3)) (hd2 : decode cc (pc + 3) = .ok (.dup, 1)) (hd3 : decode cc (pc + 4) = .ok (.invokespecial i2, 3)) (hst : (st.map fun v => v.category).sum + 1 ≤ 8)
    (hz : H.size = h) (hz0 : s.heap.size + cl = h) (hS : va_S A s.heap H locs) (hA : ∀ q, h ≤ q → q < h + Z.length → A q) (hL : ls.size = nL)
    (kk : ∀ (μc : ZM) (H' : Heap) (locs' : List Loc), P μc → H'.size = h + Z.length → (∀ q, q < h → H'[q]? = H[q]?) → va_P G0.1 vwCl (zw (G0.1, G0.2.1, h, Z) μc) H' → va_S A s.heap H' locs' → W p l e R s m args below meth c H' locs' (cl + 1 + CL) (sl + N + SL) Q (F0 m (pc + 7) ls (.ref h :: st))) :
    W p l e R s m args below meth c H locs cl sl Q (F0 m pc ls st) := by
  obtain ⟨wc, wr, wi, wh, wp, wn, wl, wm, wk, wa⟩ := hw
  have gd : ∀ {w : Cond}, w ∈ lw_tbl → goodWord w = true → w.before args s = true := fun h1 h2 => hts _ (z_gd h1 h2)
  have hK' : va_K G0.1 vwCl (ztys (G0.1, G0.2.1, G0.2.2, [])) s := hK
  have hKn := hK'.1 cj _ hcls
  refine W.newcK hx hb hown (gd wk rfl) (gd wa rfl) (gd wi rfl) rfl hd1 (by omega) (by omega) hKn.2.1 hz fun H1 kC hkC e1 z1 o1 => ?_
  refine lv_dup hx hb hd2 rfl ?_
  have hpv : PreS s H1 (zNPc (G0.1, G0.2.1, h, Z) cj fc) [.ref h] := ⟨zNPc_blind _ _ _, fun U hU hW => ⟨rfl, by rw [hU]; exact z1, by
    rw [hU]
    intro k x hk
    have h0 : k < 1 := (List.getElem?_eq_some_iff.mp hk).1
    rw [show k = 0 by omega] at hk
    cases hk
    exact ⟨_, hcls, (u_born ty hts hin hKn hkC e1 hty).to hfs⟩, va_K.moved hW.alike hK', zNw.warm hW hNw, zOv.warm hW hO⟩⟩
  have hr2 : 2 * (F0 m (pc + 4) ls (.ref h :: .ref h :: st)).monitorRoom + ((Value.ref h :: st).map fun v => v.category).sum ≤ 8 := lv_room (by rw [List.map_cons, List.sum_cons]; show 1 + _ ≤ 8; omega)
  have hgood : ∀ w ∈ zWs I, ∀ (a' : Array Value) (U : State), s.WarmedH U.vm → w.before a' U = true := by
    intro w hw a' U hW
    have h1 : w ∈ gdT := by
      rcases List.mem_cons.mp hw with rfl | h
      · exact z_gd wc rfl
      · exact h
    exact word_at hW (good_of_word (List.mem_filter.mp h1).2) (hts w h1)
  have wc' : Cond.code I.1 I.2.1 I.2.2.1 none ∈ lw_tbl := by rw [← wr]; exact wc
  have hcw : Cond.code I.1 I.2.1 I.2.2.1 none ∈ zWs I := by
    unfold zWs
    rw [wr]
    exact List.mem_cons_self
  have hrun : va_Run p l e R s m args below meth c H1 locs (cl + 1) (sl + N) CL SL (F0 m (pc + 4) ls (.ref h :: .ref h :: st)) (.ref h :: st) (zQ (G0.1, G0.2.1, h, Z) (zNP P) (Value.ref h :: []).toArray) (zA (G0.1, G0.2.1, h, Z)) := by
    rcases wl with hlk | ⟨host, hlk⟩
    · exact va_runI (As := []) (rest := .ref h :: st) (Ts := gdT) ⟨hx, hb, hml, hown, hts⟩ hM ⟨⟨rfl, rfl, hfR, hlR, hgood, hcw, gd wc' rfl, gd wi rfl, wh, z_len wp, gd hlk rfl⟩, wn, gd wm rfl⟩ hpv rfl rfl hL rfl hr2 hd3 ⟨hcR, hsR⟩
    · exact va_runIN (As := []) (rest := .ref h :: st) (Ts := gdT) ⟨hx, hb, hml, hown, hts⟩ hM ⟨⟨⟨rfl, rfl, hfR, hlR, hgood, hcw⟩, gd wc' rfl, gd wi rfl, wh, z_len wp, va_Nw.use rfl (hNw _ hlk rfl)⟩, wn, gd wm rfl⟩ hpv rfl rfl hL rfl hr2 hd3 ⟨hcR, hsR⟩
  intro T hT X
  obtain ⟨v, st₀, t, T', L, h0, X', hLo, e2, e3, ⟨v', μc, hv, ⟨hv0, hPc⟩, hbP, hzz, hk⟩, stp⟩ := hrun T hT X
  subst hv0
  cases hv
  rw [h0] at hzz hk
  have hup : T'.heap.size ≤ s.heap.size + (cl + 1 + CL) := X'.heapSize
  obtain ⟨dl, hdl⟩ : ∃ dl, Z[CL]? = some dl := ⟨_, List.getElem?_eq_getElem (by omega)⟩
  have hlow := (hbP _ _ (zw_at (G := (G0.1, G0.2.1, h, Z)) (μ := μc) hdl)).lt
  have hlow' : h + CL < t.heap.size := hlow
  have hsize : T'.heap.size = h + Z.length := by rw [e2] at hup ⊢; omega
  have hold : ∀ q, q < h → t.heap[q]? = H[q]? := fun q hq => (hk q (by omega) (fun hz9 => by have : h ≤ q := hz9.1; omega)).trans (o1 q hq)
  obtain ⟨t2, a1, b1⟩ := kk μc T'.heap (locs ++ L) hPc hsize (fun q hq => by rw [e2]; exact hold q hq) (by rw [e2]; exact hbP) ⟨by have := hS.1; omega, fun q h1 h2 => by
      rw [e2, hold q (by have := hS.1; omega)]
      exact hS.2.1 q h1 h2, fun q hq => by
      rcases List.mem_append.mp hq with h9 | h9
      · exact hS.2.2 q h9
      · exact hA _ (hLo q h9).1 (hLo q h9).2⟩ T' rfl X'
  exact ⟨t2, stp t2 a1, b1⟩
theorem g_nest {d cj i1 i2 CL SL N : Nat} {Z : List ZD} {fc : List Value} {I : ZI} {T : u_T} {P : ZM → Prop} (C : gCtx G0 own cc nL p s m args meth c) (hO : zOv s) (hsz : s.heap.size = G0.2.2 + 1) (hcl : cl = Zt.length)
    (hM : ∀ h, ZN l (G0.1, G0.2.1, h, Z) d cj fc I CL SL P) (hw : zCN own i1 i2 I N) (hcls : vwCl[cj]? = some (I.1.cls, T, N)) (hin : ∀ w ∈ u_ws I.1.cls T N, w ∈ gdT) (ty : Nat → FieldType) (hty : ∀ k, k < N → parseFieldDescriptor (T k).2.2.1 = some (ty k)) (hfs : ∀ j, j < N → defaultValue (ty j) = vp_V fc j) (hZ : CL + 1 = Z.length)
    (hcR : cl + 1 + CL ≤ R.cells) (hsR : sl + N + SL ≤ R.slots) (hfR : d + 1 ≤ R.frames) (hlR : 8 + (I.2.2.1 + 11) + 40 * d ≤ R.locals) (hd1 : decode cc pc = .ok (.new i1, 3)) (hd2 : decode cc (pc + 3) = .ok (.dup, 1)) (hd3 : decode cc (pc + 4) = .ok (.invokespecial i2, 3)) (hst : (st.map fun v => v.category).sum + 1 ≤ 8) (hn : 1 + Zt.length + Z.length ≤ n)
    (kk : ∀ μc, P μc → gW G0 n nL ci p l e R s m args below meth c Q (cl + 1 + CL) (sl + N + SL) (pc + 7) fs (Zt ++ Z.map (zsd (1 + Zt.length))) (zjn μ (1 + Zt.length) Z.length μc) (.ref (G0.2.2 + (1 + Zt.length)) :: st)) : gW G0 n nL ci p l e R s m args below meth c Q cl sl pc fs Zt μ st := by
  intro H locs ls hz hP hS hL
  refine z_newcall (G0 := G0) (h := G0.2.2 + (1 + Zt.length)) (A := zgA G0.2.2 n) C.1 C.2.1 C.2.2.1 C.2.2.2.1 C.2.2.2.2.1 C.2.2.2.2.2.1 C.2.2.2.2.2.2.1 hO (hM _) hw hcls hin ty hty hfs hZ hcR hsR hfR hlR hd1 hd2 hd3 hst hz (by omega) hS (fun q h1 h2 => ⟨by omega, by omega⟩) hL.1 (fun μc H' locs' h1 h2 h3 h4 h5 => ?_)
  refine kk μc h1 H' locs' ls (by rw [h2, List.length_append, List.length_map]; omega) ?_ h5 hL
  rw [zgw_join]
  refine va_P.app (hP.kept (fun i q hq => h3 _ ?_)) h4
  have := zgw_in hq
  omega
/-- all is made: the rest is a statement as any other -/
theorem g_tail {d CL SL : Nat} {Z : List ZD} {K : ZKt} {S : ZSt} {P : Option Value → ZM → Prop} (C : gCtx G0 own cc nL p s m args meth c) (hK : ∀ k as μ P, K k as μ P → ZT l (G0.1, G0.2.1, G0.2.2, Z) d (zinfo k) as μ P) (hn : n = Z.length) (hlen : 1 + Zt.length = Z.length) (hw : zgw G0 ci fs Zt μ = zw (G0.1, G0.2.1, G0.2.2, Z) μ)
    (hc : CS (G0.1, G0.2.1, G0.2.2, Z) own cc nL d K none [] (fun _ => []) pc S) (hS : S ([.ref 0], μ) (fun _ => False) P (fun _ _ => False)) :
    gW G0 n nL ci p l e (zrmC (d + 1) CL SL) s m args below meth c (MQ below (zQ (G0.1, G0.2.1, G0.2.2, Z) P) args s CL SL (zA (G0.1, G0.2.1, G0.2.2, Z))) CL SL pc fs Zt μ [] := by
  intro H locs ls hz hP hS9 hL
  subst hn
  rw [hw] at hP
  exact hc p l e s m args below meth c P CL SL ⟨C.1, C.2.1, C.2.2.1, C.2.2.2.1, C.2.2.2.2.1, C.2.2.2.2.2.1, C.2.2.2.2.2.2.1, C.2.2.2.2.2.2.2.1, C.2.2.2.2.2.2.2.2.2, hK⟩ ([.ref 0], μ) _ _ hS (fun _ h => h.elim) (fun _ _ h => h.elim) H locs ls hP hS9 hL
end ZN
