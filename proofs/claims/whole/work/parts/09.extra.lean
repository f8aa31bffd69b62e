/-! THE WALK: what is left: threaded jumps, a counter's step as a value -/
theorem zex2 {p q : Nat} : ∀ x ∈ [p, q], x = p ∨ x = q := fun x hx => by
  rcases List.mem_cons.mp hx with h | h
  · exact Or.inl h
  · exact Or.inr (List.mem_singleton.mp h)
/-- local++ as a value -/
def xIncL (i : Nat) : XE Int32 := fun σ Q => (zli σ.1 i).isSome = true ∧ Q ((zli σ.1 i).getD 0) (σ.1.set i (.int ((zli σ.1 i).getD 0 + 1)), σ.2)
/-- an equality whose first half may change something -/
def xEq (a : XE Int32) (b : PE Int32) : XE Bool := fun σ Q => a σ (fun x σ' => (b σ').1 ∧ Q (decide (x = (b σ').2)) σ')
def CDT (G : ZG) (own : String) (cc : ByteArray) (nL d : Nat) (K : ZKt) (rt : Option FieldType) (w pc : Nat) (TS : List Nat) (F : Nat) (f : XE Bool) : Prop :=
  ∀ (p : Program) (l : Launch) (e : Env) (s : State) (m : MethodId) (args : Array Value) (below : List Frame) (meth : Method) (c : Code) (P : Option Value → ZM → Prop) (cl sl : Nat), zCtx G own cc nL d K rt p l s m args meth c →
    ∀ (σ : ZS) (rest : List Value) (Q : Bool → ZS → Prop), zcs rest ≤ w → f σ Q → (∀ σ', Q true σ' → ∀ q ∈ TS, zW G nL d p l e s m args below meth c P cl sl q σ' rest) → (∀ σ', Q false σ' → zW G nL d p l e s m args below meth c P cl sl F σ' rest) → zW G nL d p l e s m args below meth c P cl sl pc σ rest
section ZX1
variable {G : ZG} {own : String} {cc : ByteArray} {nL d : Nat} {K : ZKt} {rt : Option FieldType} {w pc : Nat} {E : List Nat} {lb : Nat → List Nat}
theorem CX.incL {i p1 : Nat} (ha : CE Value.int G own cc nL d K rt w pc [p1] (eV i)) (hn : i < nL) (hd : decode cc p1 = .ok (.iinc i 1, 3)) (hq : p1 + 3 ∈ E) : CX Value.int G own cc nL d K rt w pc E (xIncL i) := by
  intro p l e s m args below meth c P cl sl C σ rest Q hw hf kk
  refine ha p l e s m args below meth c P cl sl C σ rest hw hf.1 (fun q hq1 => ?_)
  cases List.mem_singleton.mp hq1
  obtain ⟨y, hy⟩ := Option.isSome_iff_exists.mp hf.1
  have hN := hf.2
  simp only [hy, Option.getD_some] at hN
  intro H locs ls hP hS hL
  obtain ⟨k, hk⟩ : ∃ k : Nat, (zas G.2.2.1 0 σ.1)[k]? = some (i, Value.int y) := List.getElem?_of_mem ((zas_in σ.1 0 _).mpr ⟨i, Value.int y, by simp [zsh], zli_at hy, fun h => by cases h⟩)
  have h2 : (eV i σ).2 = y := by simp [eV, hy]
  rw [h2]
  exact lv_iinc C.1 C.2.1 hd (zL_has hL) hk (v := y + 1) (by rw [show Int32.ofInt 1 = 1 by decide]) hn rfl (fun ls' hl => kk _ _ hN _ hq H locs ls' hP hS (zL_set1 hL (zli_at hy) (fun h => by cases h) rfl rfl hl))
theorem CD.eq_F {p1 p2 T F : Nat} {off : Int} {a : XE Int32} {b : PE Int32} (ha : CX Value.int G own cc nL d K rt w pc [p1] a) (hb : CE Value.int G own cc nL d K rt (w + 1) p1 [p2] b) (hd : decode cc p2 = .ok (.if_icmp .ne off, 3)) (ht : (p2 : Int) + off = (F : Int)) (hn : p2 + 3 = T) : CD G own cc nL d K rt w pc T F (xEq a b) := by
  intro p l e s m args below meth c P cl sl C σ rest Q hw hf kT kF
  refine ha p l e s m args below meth c P cl sl C σ rest _ hw hf (fun x σ' hx q hq => ?_)
  cases List.mem_singleton.mp hq
  refine hb p l e s m args below meth c P cl sl C σ' _ (by simp [zcs, Value.category] at hw ⊢; omega) hx.1 (fun q hq1 => ?_)
  cases List.mem_singleton.mp hq1
  intro H locs ls hP hS hL
  exact lv_icmp_ne C.1 C.2.1 hd ht (fun h => kF σ' (by have := hx.2; rw [decide_eq_false h] at this; exact this) H locs ls hP hS hL) (fun h => by rw [hn]; exact kT σ' (by have := hx.2; rw [decide_eq_true h] at this; exact this) H locs ls hP hS hL)
theorem CDT.of {T F : Nat} {TS : List Nat} {f : XE Bool} (h : CD G own cc nL d K rt w pc T F f) (hT : T ∈ TS) : CDT G own cc nL d K rt w pc TS F f := by
  intro p l e s m args below meth c P cl sl C σ rest Q hw hf kT kF
  exact h p l e s m args below meth c P cl sl C σ rest Q hw hf (fun σ' h => kT σ' h T hT) kF
theorem CDT.or {p1 F : Nat} {TS : List Nat} {a b : XE Bool} (ha : CDT G own cc nL d K rt w pc TS p1 a) (hb : CDT G own cc nL d K rt w p1 TS F b) : CDT G own cc nL d K rt w pc TS F (xOr a b) := by
  intro p l e s m args below meth c P cl sl C σ rest Q hw hf kT kF
  exact ha p l e s m args below meth c P cl sl C σ rest _ hw hf (fun σ' h => kT σ' (h.1 rfl)) (fun σ' h => hb p l e s m args below meth c P cl sl C σ' rest Q hw (h.2 rfl) kT kF)
theorem CS.ifT {t1 t2 F : Nat} {c : XE Bool} {a : ZSt} (hc : CDT G own cc nL d K rt 0 pc [t1, t2] F c) (h1 : CS G own cc nL d K rt E lb t1 a) (h2 : CS G own cc nL d K rt E lb t2 a) (hF : F ∈ E) : CS G own cc nL d K rt E lb pc (sIf c a sSkip) := by
  intro p l e s m args below meth c' P cl sl C σ N B hf kN kB
  refine hc p l e s m args below meth c' P cl sl C σ [] _ (Nat.le_refl _) hf (fun σ' h x hx => ?_) (fun σ' h => kN σ' (h.2 rfl) _ hF)
  rcases zex2 x hx with rfl | rfl
  · exact h1 p l e s m args below meth c' P cl sl C σ' N B (h.1 rfl) kN kB
  · exact h2 p l e s m args below meth c' P cl sl C σ' N B (h.1 rfl) kN kB
end ZX1
/-- the words of Math.max, min, abs -/
def zMm (own : String) (idx : Nat) (N : MethodName) (C : ByteArray) (n : Nat) : Prop := Cond.methodLink own idx N ∈ lw_tbl ∧ Cond.static N ∈ lw_tbl ∧ Cond.initialized "java/lang/Math" ∈ lw_tbl ∧ Cond.code N C n (some .int) ∈ lw_tbl
section ZMM
variable {G : ZG} {own : String} {cc : ByteArray} {nL d : Nat} {K : ZKt} {rt : Option FieldType} {w pc : Nat} {E : List Nat}
theorem CE.mmax {p1 p2 idx : Nat} {a b : PE Int32} (hw8 : w + 1 ≤ 8) (ha : CE Value.int G own cc nL d K rt w pc [p1] a) (hb : CE Value.int G own cc nL d K rt (w + 1) p1 [p2] b) (hs : zMm own idx Lib.Math.max.name Lib.Math.max.code 2) (hd : decode cc p2 = .ok (.invokestatic idx, 3)) (hq : p2 + 3 ∈ E) : CE Value.int G own cc nL d K rt w pc E (eB (fun x y : Int32 => if x < y then y else x) a b) := by
  intro p l e s m args below meth c P cl sl C σ rest hw hf k
  refine ha p l e s m args below meth c P cl sl C σ rest hw hf.1 (fun q hq1 => ?_)
  cases List.mem_singleton.mp hq1
  refine hb p l e s m args below meth c P cl sl C σ _ (by simp [zcs, Value.category] at hw ⊢; omega) hf.2 (fun q hq1 => ?_)
  cases List.mem_singleton.mp hq1
  intro H locs ls hP hS hL
  have gd : ∀ {w : Cond}, w ∈ lw_tbl → goodWord w = true → w.before args s = true := fun h1 h2 => C.2.2.2.2.1 _ (z_gd h1 h2)
  exact va_mmax C.1 C.2.1 (C.2.2.1.trans hL.1.symm) C.2.2.2.1 (gd hs.1 rfl) (gd hs.2.1 rfl) (gd hs.2.2.1 rfl) (gd hs.2.2.2 rfl) (Nat.succ_le_succ (Nat.zero_le _)) (by rw [zcs_sh]; show zcs rest + 13 ≤ 40 * (d + 1); omega) (Nat.le_refl _) (Nat.le_refl _) hd (k _ hq H locs ls hP hS hL)
theorem CE.mmin {p1 p2 idx : Nat} {a b : PE Int32} (hw8 : w + 1 ≤ 8) (ha : CE Value.int G own cc nL d K rt w pc [p1] a) (hb : CE Value.int G own cc nL d K rt (w + 1) p1 [p2] b) (hs : zMm own idx Lib.Math.min.name Lib.Math.min.code 2) (hd : decode cc p2 = .ok (.invokestatic idx, 3)) (hq : p2 + 3 ∈ E) : CE Value.int G own cc nL d K rt w pc E (eB (fun x y : Int32 => if y < x then y else x) a b) := by
  intro p l e s m args below meth c P cl sl C σ rest hw hf k
  refine ha p l e s m args below meth c P cl sl C σ rest hw hf.1 (fun q hq1 => ?_)
  cases List.mem_singleton.mp hq1
  refine hb p l e s m args below meth c P cl sl C σ _ (by simp [zcs, Value.category] at hw ⊢; omega) hf.2 (fun q hq1 => ?_)
  cases List.mem_singleton.mp hq1
  intro H locs ls hP hS hL
  have gd : ∀ {w : Cond}, w ∈ lw_tbl → goodWord w = true → w.before args s = true := fun h1 h2 => C.2.2.2.2.1 _ (z_gd h1 h2)
  exact va_mmin C.1 C.2.1 (C.2.2.1.trans hL.1.symm) C.2.2.2.1 (gd hs.1 rfl) (gd hs.2.1 rfl) (gd hs.2.2.1 rfl) (gd hs.2.2.2 rfl) (Nat.succ_le_succ (Nat.zero_le _)) (by rw [zcs_sh]; show zcs rest + 13 ≤ 40 * (d + 1); omega) (Nat.le_refl _) (Nat.le_refl _) hd (k _ hq H locs ls hP hS hL)
theorem CE.mabs {p1 idx : Nat} {a : PE Int32} (hw8 : w + 1 ≤ 8) (ha : CE Value.int G own cc nL d K rt w pc [p1] a) (hs : zMm own idx Lib.Math.abs.name Lib.Math.abs.code 1) (hd : decode cc p1 = .ok (.invokestatic idx, 3)) (hq : p1 + 3 ∈ E) : CE Value.int G own cc nL d K rt w pc E (eU (fun x : Int32 => if 0 ≤ x then x else 0 - x) a) := by
  intro p l e s m args below meth c P cl sl C σ rest hw hf k
  refine ha p l e s m args below meth c P cl sl C σ rest hw hf (fun q hq1 => ?_)
  cases List.mem_singleton.mp hq1
  intro H locs ls hP hS hL
  have gd : ∀ {w : Cond}, w ∈ lw_tbl → goodWord w = true → w.before args s = true := fun h1 h2 => C.2.2.2.2.1 _ (z_gd h1 h2)
  exact va_mabs C.1 C.2.1 (C.2.2.1.trans hL.1.symm) C.2.2.2.1 (gd hs.1 rfl) (gd hs.2.1 rfl) (gd hs.2.2.1 rfl) (gd hs.2.2.2 rfl) (Nat.succ_le_succ (Nat.zero_le _)) (by rw [zcs_sh]; show zcs rest + 13 ≤ 40 * (d + 1); omega) (Nat.le_refl _) (Nat.le_refl _) hd (k _ hq H locs ls hP hS hL)
end ZMM
/-- the arrays are of the five kinds -/
def zt5 (Z : List ZD) : Prop := ∀ b t n r, zoa Z b = some (t, n, r) → t < 5
