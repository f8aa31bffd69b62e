/-! THE WALK, pure expressions: what a piece of code pushes is a function of what is known (and a condition under which it is) -/
def zrm (d : Nat) : Room := { frames := d, cells := 0, slots := 0, locals := 40 * d }
/-- the room of a body: what its world took is taken already -/
def zrmC (d cl sl : Nat) : Room := { frames := d, cells := cl, slots := sl, locals := 40 * d }
def zQ (G : ZG) (P : Option Value → ZM → Prop) : Array Value → State → Outcome → State → Prop := fun _ st o t => ∃ (v : Option Value) (μ : ZM), o = .returned (v.map (zsh G.2.2.1)) ∧ P v μ ∧ va_P G.1 vwCl (zw G μ) t.heap ∧ va_F (zA G) st t
def zPc (G : ZG) (as : List Value) (μ : ZM) : Array Value → State → Prop := va_Pc (as.map (zsh G.2.2.1)) (fun U => va_P G.1 vwCl (zw G μ) U.heap ∧ zK G U ∧ zNw U)
def zWs (I : ZI) : List Cond := .code I.1 I.2.1 I.2.2.1 I.2.2.2 :: gdT
/-- method I, called with 'as' where the cells hold μ, returns with P: depth d at most -/
def ZT (l : Launch) (G : ZG) (d : Nat) (I : ZI) (as : List Value) (μ : ZM) (P : Option Value → ZM → Prop) : Prop := Met l I.1 (zWs I) (zrm d) (zPc G as μ) (zQ G P) 0 0 (zA G)
def zCtx (G : ZG) (own : String) (cc : ByteArray) (nL d : Nat) (K : ZKt) (rt : Option FieldType) (p : Program) (l : Launch) (s : State) (m : MethodId) (args : Array Value) (meth : Method) (c : Code) : Prop :=
  p.tables.exec = Jvm.exec ∧ c.code = cc ∧ c.maxLocals = nL ∧ s.vm.findClass own = some m.cls ∧ (∀ w ∈ gdT, w.before args s = true) ∧ zK G s ∧ zNw s ∧ meth.locks = false ∧ meth.sig.returnType = rt ∧ ∀ k as μ P, K k as μ P → ZT l G d (zinfo k) as μ P
def zW (G : ZG) (nL d : Nat) (p : Program) (l : Launch) (e : Env) (s : State) (m : MethodId) (args : Array Value) (below : List Frame) (meth : Method) (c : Code) (P : Option Value → ZM → Prop) (cl sl : Nat) (pc : Nat) (σ : ZS) (st : List Value) : Prop :=
  ∀ (H : Heap) (locs : List Loc) (ls : Array Slot), va_P G.1 vwCl (zw G σ.2) H → va_S (zA G) s.heap H locs → zL G.2.2.1 ls nL σ.1 →
    W p l e (zrmC (d + 1) cl sl) s m args below meth c H locs cl sl (MQ below (zQ G P) args s cl sl (zA G)) (F0 m pc ls (st.map (zsh G.2.2.1)))
def zcs (st : List Value) : Nat := (st.map fun v => v.category).sum
theorem zcs_sh (b : Nat) (st : List Value) : ((st.map (zsh b)).map fun v => v.category).sum = zcs st := by
  unfold zcs
  rw [List.map_map]
  congr 1
  apply List.map_congr_left
  intro v _
  exact zsh_cat b v
abbrev PE (α : Type) : Type := ZS → Prop × α
/-- code from pc pushes f's value (its tag tg), and goes on at a place of E; at most w words lie below -/
def CE {α : Type} (tg : α → Value) (G : ZG) (own : String) (cc : ByteArray) (nL d : Nat) (K : ZKt) (rt : Option FieldType) (w pc : Nat) (E : List Nat) (f : PE α) : Prop :=
  ∀ (p : Program) (l : Launch) (e : Env) (s : State) (m : MethodId) (args : Array Value) (below : List Frame) (meth : Method) (c : Code) (P : Option Value → ZM → Prop) (cl sl : Nat), zCtx G own cc nL d K rt p l s m args meth c →
    ∀ (σ : ZS) (rest : List Value), zcs rest ≤ w → (f σ).1 → (∀ q ∈ E, zW G nL d p l e s m args below meth c P cl sl q σ (tg (f σ).2 :: rest)) → zW G nL d p l e s m args below meth c P cl sl pc σ rest
/-- code from pc decides: on to T or to F -/
def CC (G : ZG) (own : String) (cc : ByteArray) (nL d : Nat) (K : ZKt) (rt : Option FieldType) (w pc T F : Nat) (f : PE Bool) : Prop :=
  ∀ (p : Program) (l : Launch) (e : Env) (s : State) (m : MethodId) (args : Array Value) (below : List Frame) (meth : Method) (c : Code) (P : Option Value → ZM → Prop) (cl sl : Nat), zCtx G own cc nL d K rt p l s m args meth c →
    ∀ (σ : ZS) (rest : List Value), zcs rest ≤ w → (f σ).1 → ((f σ).2 = true → zW G nL d p l e s m args below meth c P cl sl T σ rest) → ((f σ).2 = false → zW G nL d p l e s m args below meth c P cl sl F σ rest) → zW G nL d p l e s m args below meth c P cl sl pc σ rest
/-- code from pc pushes the values of 'as', in order -/
def CA (G : ZG) (own : String) (cc : ByteArray) (nL d : Nat) (K : ZKt) (rt : Option FieldType) (w pc q : Nat) (f : PE (List Value)) : Prop :=
  ∀ (p : Program) (l : Launch) (e : Env) (s : State) (m : MethodId) (args : Array Value) (below : List Frame) (meth : Method) (c : Code) (P : Option Value → ZM → Prop) (cl sl : Nat), zCtx G own cc nL d K rt p l s m args meth c →
    ∀ (σ : ZS) (rest : List Value), zcs rest ≤ w → (f σ).1 → zW G nL d p l e s m args below meth c P cl sl q σ ((f σ).2.reverse ++ rest) → zW G nL d p l e s m args below meth c P cl sl pc σ rest
theorem zhd {a : Nat} {l : List Nat} : a ∈ a :: l := List.mem_cons_self
theorem zh1 {a b : Nat} {l : List Nat} : a ∈ b :: a :: l := List.mem_cons_of_mem _ List.mem_cons_self
-- expressions
def eK {α : Type} (v : α) : PE α := fun _ => (True, v)
def zli : List Value → Nat → Option Int32
  | .int x :: _, 0 => some x
  | _ :: L, n + 1 => zli L n
  | _, _ => none
def zlj : List Value → Nat → Option Int64
  | .long x :: _, 0 => some x
  | _ :: L, n + 1 => zlj L n
  | _, _ => none
def zlr : List Value → Nat → Option Nat
  | .ref x :: _, 0 => some x
  | _ :: L, n + 1 => zlr L n
  | _, _ => none
theorem zli_at : ∀ {L : List Value} {n : Nat} {x : Int32}, zli L n = some x → L[n]? = some (.int x) := by
  intro L
  induction L with
  | nil => intro n x h; cases n <;> cases h
  | cons v L ih =>
    intro n x h
    cases n with
    | zero => cases v <;> simp [zli] at h ⊢; exact h
    | succ n => exact (ih (by cases v <;> exact h) : L[n]? = _)
theorem zlj_at : ∀ {L : List Value} {n : Nat} {x : Int64}, zlj L n = some x → L[n]? = some (.long x) := by
  intro L
  induction L with
  | nil => intro n x h; cases n <;> cases h
  | cons v L ih =>
    intro n x h
    cases n with
    | zero => cases v <;> simp [zlj] at h ⊢; exact h
    | succ n => exact (ih (by cases v <;> exact h) : L[n]? = _)
theorem zlr_at : ∀ {L : List Value} {n : Nat} {x : Nat}, zlr L n = some x → L[n]? = some (.ref x) := by
  intro L
  induction L with
  | nil => intro n x h; cases n <;> cases h
  | cons v L ih =>
    intro n x h
    cases n with
    | zero => cases v <;> simp [zlr] at h ⊢; exact h
    | succ n => exact (ih (by cases v <;> exact h) : L[n]? = _)
def eV (i : Nat) : PE Int32 := fun σ => ((zli σ.1 i).isSome = true, (zli σ.1 i).getD 0)
def eW (i : Nat) : PE Int64 := fun σ => ((zlj σ.1 i).isSome = true, (zlj σ.1 i).getD 0)
def eR (i : Nat) : PE Nat := fun σ => ((zlr σ.1 i).isSome = true, (zlr σ.1 i).getD 0)
def eB {α β γ : Type} (f : α → β → γ) (a : PE α) (b : PE β) : PE γ := fun σ => ((a σ).1 ∧ (b σ).1, f (a σ).2 (b σ).2)
def eU {α β : Type} (f : α → β) (a : PE α) : PE β := fun σ => ((a σ).1, f (a σ).2)
/-- a quotient or rest: by what is not 0 -/
def eD {α : Type} (z : α) (f : α → α → α) (a b : PE α) : PE α := fun σ => ((a σ).1 ∧ (b σ).1 ∧ ¬ (b σ).2 = z, f (a σ).2 (b σ).2)
def eT {α : Type} (c : PE Bool) (a b : PE α) : PE α := fun σ => ((c σ).1 ∧ ((c σ).2 = true → (a σ).1) ∧ ((c σ).2 = false → (b σ).1), if (c σ).2 = true then (a σ).2 else (b σ).2)
def zi (b : Bool) : Int32 := if b = true then 1 else 0
def eI (c : PE Bool) : PE Int32 := fun σ => ((c σ).1, zi (c σ).2)
def eAnd (a b : PE Bool) : PE Bool := fun σ => ((a σ).1 ∧ ((a σ).2 = true → (b σ).1), (a σ).2 && (b σ).2)
def eOr (a b : PE Bool) : PE Bool := fun σ => ((a σ).1 ∧ ((a σ).2 = false → (b σ).1), (a σ).2 || (b σ).2)
def eNot (a : PE Bool) : PE Bool := fun σ => ((a σ).1, !(a σ).2)
-- what the shape says
def zof (Z : List ZD) (a k : Nat) : Option (Option (Option Nat)) := match Z[a]? with
  | some (.inl (_, fs)) => fs[k]?
  | _ => none
def zoc (Z : List ZD) (a : Nat) : Option Nat := match Z[a]? with
  | some (.inl (c, _)) => some c
  | _ => none
def zoa (Z : List ZD) (a : Nat) : Option (Nat × Nat × Nat) := match Z[a]? with
  | some (.inr x) => some x
  | _ => none
/-- cell a is an array of kind t, i within it -/
def zin (Z : List ZD) (t a : Nat) (i : Int32) : Prop := match zoa Z a with
  | some (t', n, _) => t' = t ∧ vp_in i n
  | none => False
def zrf (Z : List ZD) (ci a k : Nat) : Option Nat := match zoc Z a, zof Z a k with
  | some c, some (some (some r)) => if c = ci then some r else none
  | _, _ => none
def zif (Z : List ZD) (ci a k : Nat) : Prop := zoc Z a = some ci ∧ zof Z a k = some none
def zjf (Z : List ZD) (ci a k : Nat) : Prop := zoc Z a = some ci ∧ zof Z a k = some (some none)
def eF (Z : List ZD) (ci k : Nat) (a : PE Nat) : PE Int32 := fun σ => ((a σ).1 ∧ zif Z ci (a σ).2 k, σ.2.1 (a σ).2 k)
def eFL (Z : List ZD) (ci k : Nat) (a : PE Nat) : PE Int64 := fun σ => ((a σ).1 ∧ zjf Z ci (a σ).2 k, σ.2.2 (a σ).2 k)
def eFR (Z : List ZD) (ci k : Nat) (a : PE Nat) : PE Nat := fun σ => ((a σ).1 ∧ (zrf Z ci (a σ).2 k).isSome = true, (zrf Z ci (a σ).2 k).getD 0)
def eA (Z : List ZD) (t : Nat) (a : PE Nat) (i : PE Int32) : PE Int32 := fun σ => ((a σ).1 ∧ (i σ).1 ∧ zin Z t (a σ).2 (i σ).2, σ.2.1 (a σ).2 (i σ).2.toNatClampNeg)
def eAL (Z : List ZD) (a : PE Nat) (i : PE Int32) : PE Int64 := fun σ => ((a σ).1 ∧ (i σ).1 ∧ zin Z 1 (a σ).2 (i σ).2, σ.2.2 (a σ).2 (i σ).2.toNatClampNeg)
def zrw (Z : List ZD) (a : Nat) : Nat := match zoa Z a with
  | some (_, _, r) => r
  | none => 0
def eAR (Z : List ZD) (a : PE Nat) (i : PE Int32) : PE Nat := fun σ => ((a σ).1 ∧ (i σ).1 ∧ zin Z 4 (a σ).2 (i σ).2, zrw Z (a σ).2 + (i σ).2.toNatClampNeg)
def eN (Z : List ZD) (a : PE Nat) : PE Int32 := fun σ => ((a σ).1 ∧ (zoa Z (a σ).2).isSome = true, match zoa Z (a σ).2 with
  | some (_, n, _) => Int32.ofNat n
  | none => 0)
def aN : PE (List Value) := fun _ => (True, [])
def aI (e : PE Int32) (as : PE (List Value)) : PE (List Value) := fun σ => ((e σ).1 ∧ (as σ).1, .int (e σ).2 :: (as σ).2)
def aL (e : PE Int64) (as : PE (List Value)) : PE (List Value) := fun σ => ((e σ).1 ∧ (as σ).1, .long (e σ).2 :: (as σ).2)
def aR (e : PE Nat) (as : PE (List Value)) : PE (List Value) := fun σ => ((e σ).1 ∧ (as σ).1, .ref (e σ).2 :: (as σ).2)
def rdI : Value → Int32
  | .int x => x
  | _ => 0
def rdL : Value → Int64
  | .long x => x
  | _ => 0
def rdR : Value → Nat
  | .ref x => x
  | _ => 0
/-- the receiver is an object of class ci -/
def zob (Z : List ZD) (ci : Nat) (as : List Value) : Prop := match as with
  | .ref a :: _ => zoc Z a = some ci
  | _ => False
/-- calls that change nothing: their answer by F -/
def eCS {α : Type} (tg : α → Value) (rd : Value → α) (K : ZKt) (F : ZFt) (k : Nat) (as : PE (List Value)) : PE α := fun σ => ((as σ).1 ∧ K k (as σ).2 σ.2 (fun v μ => v = some (tg (rd (F k (as σ).2 σ.2))) ∧ μ = σ.2), rd (F k (as σ).2 σ.2))
def eCV {α : Type} (tg : α → Value) (rd : Value → α) (Z : List ZD) (ci : Nat) (K : ZKt) (F : ZFt) (k : Nat) (as : PE (List Value)) : PE α := fun σ => ((as σ).1 ∧ zob Z ci (as σ).2 ∧ K k (as σ).2 σ.2 (fun v μ => v = some (tg (rd (F k (as σ).2 σ.2))) ∧ μ = σ.2), rd (F k (as σ).2 σ.2))
section ZE
variable {G : ZG} {own : String} {cc : ByteArray} {nL d : Nat} {K : ZKt} {rt : Option FieldType} {w pc : Nat} {E : List Nat}

theorem CE.iconst {n : Int} {v : Int32} (hv : Int32.ofInt n = v) (hd : decode cc pc = .ok (.iconst n, 1)) (hq : pc + 1 ∈ E) : CE Value.int G own cc nL d K rt w pc E (eK v) := by
  intro p l e s m args below meth c P cl sl C σ rest hw hf k H locs ls hP hS hL
  exact lv_iconst C.1 C.2.1 hd hv (k _ hq H locs ls hP hS hL)
theorem CE.bipush {n : Int} {v : Int32} (hv : (Int8.ofInt n).toInt32 = v) (hd : decode cc pc = .ok (.bipush n, 2)) (hq : pc + 2 ∈ E) : CE Value.int G own cc nL d K rt w pc E (eK v) := by
  intro p l e s m args below meth c P cl sl C σ rest hw hf k H locs ls hP hS hL
  exact lv_bipush C.1 C.2.1 hd hv (k _ hq H locs ls hP hS hL)
theorem CE.sipush {n : Int} {v : Int32} (hv : (Int16.ofInt n).toInt32 = v) (hd : decode cc pc = .ok (.sipush n, 3)) (hq : pc + 3 ∈ E) : CE Value.int G own cc nL d K rt w pc E (eK v) := by
  intro p l e s m args below meth c P cl sl C σ rest hw hf k H locs ls hP hS hL
  exact lv_sipush C.1 C.2.1 hd hv (k _ hq H locs ls hP hS hL)
theorem CE.lconst {n : Fin 2} {v : Int64} (hv : Int64.ofNat (n : Nat) = v) (hd : decode cc pc = .ok (.lconst n, 1)) (hq : pc + 1 ∈ E) : CE Value.long G own cc nL d K rt w pc E (eK v) := by
  intro p l e s m args below meth c P cl sl C σ rest hw hf k H locs ls hP hS hL
  exact lv_lconst C.1 C.2.1 hd hv (k _ hq H locs ls hP hS hL)
theorem CE.ldc {ix : Nat} {v : Int32} (hm : Cond.constant own ix v ∈ lw_tbl) (hd : decode cc pc = .ok (.ldc ix, 2)) (hq : pc + 2 ∈ E) : CE Value.int G own cc nL d K rt w pc E (eK v) := by
  intro p l e s m args below meth c P cl sl C σ rest hw hf k H locs ls hP hS hL
  exact lv_ldc C.1 C.2.1 C.2.2.2.1 (C.2.2.2.2.1 _ (z_gd hm rfl)) hd (k _ hq H locs ls hP hS hL)
theorem CE.ldcw {ix : Nat} {v : Int32} (hm : Cond.constant own ix v ∈ lw_tbl) (hd : decode cc pc = .ok (.ldc_w ix, 3)) (hq : pc + 3 ∈ E) : CE Value.int G own cc nL d K rt w pc E (eK v) := by
  intro p l e s m args below meth c P cl sl C σ rest hw hf k H locs ls hP hS hL
  exact lv_ldcw C.1 C.2.1 C.2.2.2.1 (C.2.2.2.2.1 _ (z_gd hm rfl)) hd (k _ hq H locs ls hP hS hL)
theorem CE.ldc2 {ix : Nat} {v : Int64} (hm : Cond.constantLong own ix v ∈ lw_tbl) (hd : decode cc pc = .ok (.ldc2_w ix, 3)) (hq : pc + 3 ∈ E) : CE Value.long G own cc nL d K rt w pc E (eK v) := by
  intro p l e s m args below meth c P cl sl C σ rest hw hf k H locs ls hP hS hL
  exact lv_ldc2 C.1 C.2.1 C.2.2.2.1 (C.2.2.2.2.1 _ (z_gd hm rfl)) hd (k _ hq H locs ls hP hS hL)
theorem CE.iload_n {n : Fin 4} {i : Nat} (hi : (n : Nat) = i) (hd : decode cc pc = .ok (.iload_n n, 1)) (hq : pc + 1 ∈ E) : CE Value.int G own cc nL d K rt w pc E (eV i) := by
  intro p l e s m args below meth c P cl sl C σ rest hw hf k H locs ls hP hS hL
  obtain ⟨x, hx⟩ := Option.isSome_iff_exists.mp (show (zli σ.1 i).isSome = true from hf)
  have h1 := zL_at hL (zli_at hx) (by intro h; cases h)
  refine lv_iload_n C.1 C.2.1 hd hi h1 ?_
  have h2 := k _ hq H locs ls hP hS hL
  simp only [eV, hx, Option.getD_some] at h2
  exact h2
theorem CE.iload {i : Nat} (hd : decode cc pc = .ok (.iload i, 2)) (hq : pc + 2 ∈ E) : CE Value.int G own cc nL d K rt w pc E (eV i) := by
  intro p l e s m args below meth c P cl sl C σ rest hw hf k H locs ls hP hS hL
  obtain ⟨x, hx⟩ := Option.isSome_iff_exists.mp (show (zli σ.1 i).isSome = true from hf)
  have h1 := zL_at hL (zli_at hx) (by intro h; cases h)
  refine lv_iload C.1 C.2.1 hd h1 ?_
  have h2 := k _ hq H locs ls hP hS hL
  simp only [eV, hx, Option.getD_some] at h2
  exact h2
theorem CE.lload_n {n : Fin 4} {i : Nat} (hi : (n : Nat) = i) (hd : decode cc pc = .ok (.lload_n n, 1)) (hq : pc + 1 ∈ E) : CE Value.long G own cc nL d K rt w pc E (eW i) := by
  intro p l e s m args below meth c P cl sl C σ rest hw hf k H locs ls hP hS hL
  obtain ⟨x, hx⟩ := Option.isSome_iff_exists.mp (show (zlj σ.1 i).isSome = true from hf)
  have h1 := zL_at hL (zlj_at hx) (by intro h; cases h)
  refine lv_lload_n C.1 C.2.1 hd hi h1 ?_
  have h2 := k _ hq H locs ls hP hS hL
  simp only [eW, hx, Option.getD_some] at h2
  exact h2
theorem CE.lload {i : Nat} (hd : decode cc pc = .ok (.lload i, 2)) (hq : pc + 2 ∈ E) : CE Value.long G own cc nL d K rt w pc E (eW i) := by
  intro p l e s m args below meth c P cl sl C σ rest hw hf k H locs ls hP hS hL
  obtain ⟨x, hx⟩ := Option.isSome_iff_exists.mp (show (zlj σ.1 i).isSome = true from hf)
  have h1 := zL_at hL (zlj_at hx) (by intro h; cases h)
  refine lv_lload C.1 C.2.1 hd h1 ?_
  have h2 := k _ hq H locs ls hP hS hL
  simp only [eW, hx, Option.getD_some] at h2
  exact h2
theorem CE.aload_n {n : Fin 4} {i : Nat} (hi : (n : Nat) = i) (hd : decode cc pc = .ok (.aload_n n, 1)) (hq : pc + 1 ∈ E) : CE Value.ref G own cc nL d K rt w pc E (eR i) := by
  intro p l e s m args below meth c P cl sl C σ rest hw hf k H locs ls hP hS hL
  obtain ⟨x, hx⟩ := Option.isSome_iff_exists.mp (show (zlr σ.1 i).isSome = true from hf)
  have h1 := zL_at hL (zlr_at hx) (by intro h; cases h)
  refine lv_aload_n C.1 C.2.1 hd hi h1 ?_
  have h2 := k _ hq H locs ls hP hS hL
  simp only [eR, hx, Option.getD_some] at h2
  exact h2
theorem CE.aload {i : Nat} (hd : decode cc pc = .ok (.aload i, 2)) (hq : pc + 2 ∈ E) : CE Value.ref G own cc nL d K rt w pc E (eR i) := by
  intro p l e s m args below meth c P cl sl C σ rest hw hf k H locs ls hP hS hL
  obtain ⟨x, hx⟩ := Option.isSome_iff_exists.mp (show (zlr σ.1 i).isSome = true from hf)
  have h1 := zL_at hL (zlr_at hx) (by intro h; cases h)
  refine lv_aload C.1 C.2.1 hd h1 ?_
  have h2 := k _ hq H locs ls hP hS hL
  simp only [eR, hx, Option.getD_some] at h2
  exact h2
theorem CE.iadd {p1 p2 : Nat} {a : PE Int32} {b : PE Int32} (ha : CE Value.int G own cc nL d K rt w pc [p1] a) (hb : CE Value.int G own cc nL d K rt (w + 1) p1 [p2] b) (hd : decode cc p2 = .ok (.iadd, 1)) (hq : p2 + 1 ∈ E) : CE Value.int G own cc nL d K rt w pc E (eB (fun x y : Int32 => x + y) a b) := by
  intro p l e s m args below meth c P cl sl C σ rest hw hf k
  refine ha p l e s m args below meth c P cl sl C σ rest hw hf.1 (fun q hq1 => ?_)
  cases List.mem_singleton.mp hq1
  refine hb p l e s m args below meth c P cl sl C σ _ (by simp [zcs, Value.category] at hw ⊢; omega) hf.2 (fun q hq1 => ?_)
  cases List.mem_singleton.mp hq1
  intro H locs ls hP hS hL
  exact lv_iadd C.1 C.2.1 hd  (k _ hq H locs ls hP hS hL)
theorem CE.isub {p1 p2 : Nat} {a : PE Int32} {b : PE Int32} (ha : CE Value.int G own cc nL d K rt w pc [p1] a) (hb : CE Value.int G own cc nL d K rt (w + 1) p1 [p2] b) (hd : decode cc p2 = .ok (.isub, 1)) (hq : p2 + 1 ∈ E) : CE Value.int G own cc nL d K rt w pc E (eB (fun x y : Int32 => x - y) a b) := by
  intro p l e s m args below meth c P cl sl C σ rest hw hf k
  refine ha p l e s m args below meth c P cl sl C σ rest hw hf.1 (fun q hq1 => ?_)
  cases List.mem_singleton.mp hq1
  refine hb p l e s m args below meth c P cl sl C σ _ (by simp [zcs, Value.category] at hw ⊢; omega) hf.2 (fun q hq1 => ?_)
  cases List.mem_singleton.mp hq1
  intro H locs ls hP hS hL
  exact lv_isub C.1 C.2.1 hd  (k _ hq H locs ls hP hS hL)
theorem CE.imul {p1 p2 : Nat} {a : PE Int32} {b : PE Int32} (ha : CE Value.int G own cc nL d K rt w pc [p1] a) (hb : CE Value.int G own cc nL d K rt (w + 1) p1 [p2] b) (hd : decode cc p2 = .ok (.imul, 1)) (hq : p2 + 1 ∈ E) : CE Value.int G own cc nL d K rt w pc E (eB (fun x y : Int32 => x * y) a b) := by
  intro p l e s m args below meth c P cl sl C σ rest hw hf k
  refine ha p l e s m args below meth c P cl sl C σ rest hw hf.1 (fun q hq1 => ?_)
  cases List.mem_singleton.mp hq1
  refine hb p l e s m args below meth c P cl sl C σ _ (by simp [zcs, Value.category] at hw ⊢; omega) hf.2 (fun q hq1 => ?_)
  cases List.mem_singleton.mp hq1
  intro H locs ls hP hS hL
  exact lv_imul C.1 C.2.1 hd  (k _ hq H locs ls hP hS hL)
theorem CE.iand {p1 p2 : Nat} {a : PE Int32} {b : PE Int32} (ha : CE Value.int G own cc nL d K rt w pc [p1] a) (hb : CE Value.int G own cc nL d K rt (w + 1) p1 [p2] b) (hd : decode cc p2 = .ok (.iand, 1)) (hq : p2 + 1 ∈ E) : CE Value.int G own cc nL d K rt w pc E (eB (fun x y : Int32 => x &&& y) a b) := by
  intro p l e s m args below meth c P cl sl C σ rest hw hf k
  refine ha p l e s m args below meth c P cl sl C σ rest hw hf.1 (fun q hq1 => ?_)
  cases List.mem_singleton.mp hq1
  refine hb p l e s m args below meth c P cl sl C σ _ (by simp [zcs, Value.category] at hw ⊢; omega) hf.2 (fun q hq1 => ?_)
  cases List.mem_singleton.mp hq1
  intro H locs ls hP hS hL
  exact lv_iand C.1 C.2.1 hd  (k _ hq H locs ls hP hS hL)
theorem CE.ior {p1 p2 : Nat} {a : PE Int32} {b : PE Int32} (ha : CE Value.int G own cc nL d K rt w pc [p1] a) (hb : CE Value.int G own cc nL d K rt (w + 1) p1 [p2] b) (hd : decode cc p2 = .ok (.ior, 1)) (hq : p2 + 1 ∈ E) : CE Value.int G own cc nL d K rt w pc E (eB (fun x y : Int32 => x ||| y) a b) := by
  intro p l e s m args below meth c P cl sl C σ rest hw hf k
  refine ha p l e s m args below meth c P cl sl C σ rest hw hf.1 (fun q hq1 => ?_)
  cases List.mem_singleton.mp hq1
  refine hb p l e s m args below meth c P cl sl C σ _ (by simp [zcs, Value.category] at hw ⊢; omega) hf.2 (fun q hq1 => ?_)
  cases List.mem_singleton.mp hq1
  intro H locs ls hP hS hL
  exact lv_ior C.1 C.2.1 hd  (k _ hq H locs ls hP hS hL)
theorem CE.ixor {p1 p2 : Nat} {a : PE Int32} {b : PE Int32} (ha : CE Value.int G own cc nL d K rt w pc [p1] a) (hb : CE Value.int G own cc nL d K rt (w + 1) p1 [p2] b) (hd : decode cc p2 = .ok (.ixor, 1)) (hq : p2 + 1 ∈ E) : CE Value.int G own cc nL d K rt w pc E (eB (fun x y : Int32 => x ^^^ y) a b) := by
  intro p l e s m args below meth c P cl sl C σ rest hw hf k
  refine ha p l e s m args below meth c P cl sl C σ rest hw hf.1 (fun q hq1 => ?_)
  cases List.mem_singleton.mp hq1
  refine hb p l e s m args below meth c P cl sl C σ _ (by simp [zcs, Value.category] at hw ⊢; omega) hf.2 (fun q hq1 => ?_)
  cases List.mem_singleton.mp hq1
  intro H locs ls hP hS hL
  exact lv_ixor C.1 C.2.1 hd  (k _ hq H locs ls hP hS hL)
theorem CE.ishl {p1 p2 : Nat} {a : PE Int32} {b : PE Int32} (ha : CE Value.int G own cc nL d K rt w pc [p1] a) (hb : CE Value.int G own cc nL d K rt (w + 1) p1 [p2] b) (hd : decode cc p2 = .ok (.ishl, 1)) (hq : p2 + 1 ∈ E) : CE Value.int G own cc nL d K rt w pc E (eB (fun x y : Int32 => x <<< (y &&& 31)) a b) := by
  intro p l e s m args below meth c P cl sl C σ rest hw hf k
  refine ha p l e s m args below meth c P cl sl C σ rest hw hf.1 (fun q hq1 => ?_)
  cases List.mem_singleton.mp hq1
  refine hb p l e s m args below meth c P cl sl C σ _ (by simp [zcs, Value.category] at hw ⊢; omega) hf.2 (fun q hq1 => ?_)
  cases List.mem_singleton.mp hq1
  intro H locs ls hP hS hL
  exact lv_ishl C.1 C.2.1 hd  (k _ hq H locs ls hP hS hL)
theorem CE.ishr {p1 p2 : Nat} {a : PE Int32} {b : PE Int32} (ha : CE Value.int G own cc nL d K rt w pc [p1] a) (hb : CE Value.int G own cc nL d K rt (w + 1) p1 [p2] b) (hd : decode cc p2 = .ok (.ishr, 1)) (hq : p2 + 1 ∈ E) : CE Value.int G own cc nL d K rt w pc E (eB (fun x y : Int32 => x >>> (y &&& 31)) a b) := by
  intro p l e s m args below meth c P cl sl C σ rest hw hf k
  refine ha p l e s m args below meth c P cl sl C σ rest hw hf.1 (fun q hq1 => ?_)
  cases List.mem_singleton.mp hq1
  refine hb p l e s m args below meth c P cl sl C σ _ (by simp [zcs, Value.category] at hw ⊢; omega) hf.2 (fun q hq1 => ?_)
  cases List.mem_singleton.mp hq1
  intro H locs ls hP hS hL
  exact lv_ishr C.1 C.2.1 hd  (k _ hq H locs ls hP hS hL)
theorem CE.iushr {p1 p2 : Nat} {a : PE Int32} {b : PE Int32} (ha : CE Value.int G own cc nL d K rt w pc [p1] a) (hb : CE Value.int G own cc nL d K rt (w + 1) p1 [p2] b) (hd : decode cc p2 = .ok (.iushr, 1)) (hq : p2 + 1 ∈ E) : CE Value.int G own cc nL d K rt w pc E (eB (fun x y : Int32 => (x.toUInt32 >>> (y.toUInt32 &&& Int32.toUInt32 31)).toInt32) a b) := by
  intro p l e s m args below meth c P cl sl C σ rest hw hf k
  refine ha p l e s m args below meth c P cl sl C σ rest hw hf.1 (fun q hq1 => ?_)
  cases List.mem_singleton.mp hq1
  refine hb p l e s m args below meth c P cl sl C σ _ (by simp [zcs, Value.category] at hw ⊢; omega) hf.2 (fun q hq1 => ?_)
  cases List.mem_singleton.mp hq1
  intro H locs ls hP hS hL
  exact lv_iushr C.1 C.2.1 hd rfl (k _ hq H locs ls hP hS hL)
theorem CE.ladd {p1 p2 : Nat} {a : PE Int64} {b : PE Int64} (ha : CE Value.long G own cc nL d K rt w pc [p1] a) (hb : CE Value.long G own cc nL d K rt (w + 2) p1 [p2] b) (hd : decode cc p2 = .ok (.ladd, 1)) (hq : p2 + 1 ∈ E) : CE Value.long G own cc nL d K rt w pc E (eB (fun x y : Int64 => x + y) a b) := by
  intro p l e s m args below meth c P cl sl C σ rest hw hf k
  refine ha p l e s m args below meth c P cl sl C σ rest hw hf.1 (fun q hq1 => ?_)
  cases List.mem_singleton.mp hq1
  refine hb p l e s m args below meth c P cl sl C σ _ (by simp [zcs, Value.category] at hw ⊢; omega) hf.2 (fun q hq1 => ?_)
  cases List.mem_singleton.mp hq1
  intro H locs ls hP hS hL
  exact lv_ladd C.1 C.2.1 hd  (k _ hq H locs ls hP hS hL)
theorem CE.lsub {p1 p2 : Nat} {a : PE Int64} {b : PE Int64} (ha : CE Value.long G own cc nL d K rt w pc [p1] a) (hb : CE Value.long G own cc nL d K rt (w + 2) p1 [p2] b) (hd : decode cc p2 = .ok (.lsub, 1)) (hq : p2 + 1 ∈ E) : CE Value.long G own cc nL d K rt w pc E (eB (fun x y : Int64 => x - y) a b) := by
  intro p l e s m args below meth c P cl sl C σ rest hw hf k
  refine ha p l e s m args below meth c P cl sl C σ rest hw hf.1 (fun q hq1 => ?_)
  cases List.mem_singleton.mp hq1
  refine hb p l e s m args below meth c P cl sl C σ _ (by simp [zcs, Value.category] at hw ⊢; omega) hf.2 (fun q hq1 => ?_)
  cases List.mem_singleton.mp hq1
  intro H locs ls hP hS hL
  exact lv_lsub C.1 C.2.1 hd  (k _ hq H locs ls hP hS hL)
theorem CE.lmul {p1 p2 : Nat} {a : PE Int64} {b : PE Int64} (ha : CE Value.long G own cc nL d K rt w pc [p1] a) (hb : CE Value.long G own cc nL d K rt (w + 2) p1 [p2] b) (hd : decode cc p2 = .ok (.lmul, 1)) (hq : p2 + 1 ∈ E) : CE Value.long G own cc nL d K rt w pc E (eB (fun x y : Int64 => x * y) a b) := by
  intro p l e s m args below meth c P cl sl C σ rest hw hf k
  refine ha p l e s m args below meth c P cl sl C σ rest hw hf.1 (fun q hq1 => ?_)
  cases List.mem_singleton.mp hq1
  refine hb p l e s m args below meth c P cl sl C σ _ (by simp [zcs, Value.category] at hw ⊢; omega) hf.2 (fun q hq1 => ?_)
  cases List.mem_singleton.mp hq1
  intro H locs ls hP hS hL
  exact lv_lmul C.1 C.2.1 hd  (k _ hq H locs ls hP hS hL)
theorem CE.land {p1 p2 : Nat} {a : PE Int64} {b : PE Int64} (ha : CE Value.long G own cc nL d K rt w pc [p1] a) (hb : CE Value.long G own cc nL d K rt (w + 2) p1 [p2] b) (hd : decode cc p2 = .ok (.land, 1)) (hq : p2 + 1 ∈ E) : CE Value.long G own cc nL d K rt w pc E (eB (fun x y : Int64 => x &&& y) a b) := by
  intro p l e s m args below meth c P cl sl C σ rest hw hf k
  refine ha p l e s m args below meth c P cl sl C σ rest hw hf.1 (fun q hq1 => ?_)
  cases List.mem_singleton.mp hq1
  refine hb p l e s m args below meth c P cl sl C σ _ (by simp [zcs, Value.category] at hw ⊢; omega) hf.2 (fun q hq1 => ?_)
  cases List.mem_singleton.mp hq1
  intro H locs ls hP hS hL
  exact lv_land C.1 C.2.1 hd  (k _ hq H locs ls hP hS hL)
theorem CE.lor {p1 p2 : Nat} {a : PE Int64} {b : PE Int64} (ha : CE Value.long G own cc nL d K rt w pc [p1] a) (hb : CE Value.long G own cc nL d K rt (w + 2) p1 [p2] b) (hd : decode cc p2 = .ok (.lor, 1)) (hq : p2 + 1 ∈ E) : CE Value.long G own cc nL d K rt w pc E (eB (fun x y : Int64 => x ||| y) a b) := by
  intro p l e s m args below meth c P cl sl C σ rest hw hf k
  refine ha p l e s m args below meth c P cl sl C σ rest hw hf.1 (fun q hq1 => ?_)
  cases List.mem_singleton.mp hq1
  refine hb p l e s m args below meth c P cl sl C σ _ (by simp [zcs, Value.category] at hw ⊢; omega) hf.2 (fun q hq1 => ?_)
  cases List.mem_singleton.mp hq1
  intro H locs ls hP hS hL
  exact lv_lor C.1 C.2.1 hd  (k _ hq H locs ls hP hS hL)
theorem CE.lxor {p1 p2 : Nat} {a : PE Int64} {b : PE Int64} (ha : CE Value.long G own cc nL d K rt w pc [p1] a) (hb : CE Value.long G own cc nL d K rt (w + 2) p1 [p2] b) (hd : decode cc p2 = .ok (.lxor, 1)) (hq : p2 + 1 ∈ E) : CE Value.long G own cc nL d K rt w pc E (eB (fun x y : Int64 => x ^^^ y) a b) := by
  intro p l e s m args below meth c P cl sl C σ rest hw hf k
  refine ha p l e s m args below meth c P cl sl C σ rest hw hf.1 (fun q hq1 => ?_)
  cases List.mem_singleton.mp hq1
  refine hb p l e s m args below meth c P cl sl C σ _ (by simp [zcs, Value.category] at hw ⊢; omega) hf.2 (fun q hq1 => ?_)
  cases List.mem_singleton.mp hq1
  intro H locs ls hP hS hL
  exact lv_lxor C.1 C.2.1 hd  (k _ hq H locs ls hP hS hL)
theorem CE.lushr {p1 p2 : Nat} {a : PE Int64} {b : PE Int32} (ha : CE Value.long G own cc nL d K rt w pc [p1] a) (hb : CE Value.int G own cc nL d K rt (w + 2) p1 [p2] b) (hd : decode cc p2 = .ok (.lushr, 1)) (hq : p2 + 1 ∈ E) : CE Value.long G own cc nL d K rt w pc E (eB (fun (x : Int64) (y : Int32) => (x.toUInt64 >>> (y.toInt64.toUInt64 &&& Int64.toUInt64 63)).toInt64) a b) := by
  intro p l e s m args below meth c P cl sl C σ rest hw hf k
  refine ha p l e s m args below meth c P cl sl C σ rest hw hf.1 (fun q hq1 => ?_)
  cases List.mem_singleton.mp hq1
  refine hb p l e s m args below meth c P cl sl C σ _ (by simp [zcs, Value.category] at hw ⊢; omega) hf.2 (fun q hq1 => ?_)
  cases List.mem_singleton.mp hq1
  intro H locs ls hP hS hL
  exact lv_lushr C.1 C.2.1 hd rfl (k _ hq H locs ls hP hS hL)
theorem CE.lshr {p1 p2 : Nat} {a : PE Int64} {b : PE Int32} (ha : CE Value.long G own cc nL d K rt w pc [p1] a) (hb : CE Value.int G own cc nL d K rt (w + 2) p1 [p2] b) (hd : decode cc p2 = .ok (.lshr, 1)) (hq : p2 + 1 ∈ E) : CE Value.long G own cc nL d K rt w pc E (eB (fun (x : Int64) (y : Int32) => x >>> (y.toInt64 &&& 63)) a b) := by
  intro p l e s m args below meth c P cl sl C σ rest hw hf k
  refine ha p l e s m args below meth c P cl sl C σ rest hw hf.1 (fun q hq1 => ?_)
  cases List.mem_singleton.mp hq1
  refine hb p l e s m args below meth c P cl sl C σ _ (by simp [zcs, Value.category] at hw ⊢; omega) hf.2 (fun q hq1 => ?_)
  cases List.mem_singleton.mp hq1
  intro H locs ls hP hS hL
  exact lv_lshr C.1 C.2.1 hd rfl (k _ hq H locs ls hP hS hL)
theorem CE.lshl {p1 p2 : Nat} {a : PE Int64} {b : PE Int32} (ha : CE Value.long G own cc nL d K rt w pc [p1] a) (hb : CE Value.int G own cc nL d K rt (w + 2) p1 [p2] b) (hd : decode cc p2 = .ok (.lshl, 1)) (hq : p2 + 1 ∈ E) : CE Value.long G own cc nL d K rt w pc E (eB (fun (x : Int64) (y : Int32) => x <<< (y.toInt64 &&& 63)) a b) := by
  intro p l e s m args below meth c P cl sl C σ rest hw hf k
  refine ha p l e s m args below meth c P cl sl C σ rest hw hf.1 (fun q hq1 => ?_)
  cases List.mem_singleton.mp hq1
  refine hb p l e s m args below meth c P cl sl C σ _ (by simp [zcs, Value.category] at hw ⊢; omega) hf.2 (fun q hq1 => ?_)
  cases List.mem_singleton.mp hq1
  intro H locs ls hP hS hL
  exact lv_lshl C.1 C.2.1 hd rfl (k _ hq H locs ls hP hS hL)
theorem CE.idiv {p1 p2 : Nat} {a b : PE Int32} (ha : CE Value.int G own cc nL d K rt w pc [p1] a) (hb : CE Value.int G own cc nL d K rt (w + 1) p1 [p2] b) (hd : decode cc p2 = .ok (.idiv, 1)) (hq : p2 + 1 ∈ E) : CE Value.int G own cc nL d K rt w pc E (eD (0 : Int32) (fun x y : Int32 => x / y) a b) := by
  intro p l e s m args below meth c P cl sl C σ rest hw hf k
  refine ha p l e s m args below meth c P cl sl C σ rest hw hf.1 (fun q hq1 => ?_)
  cases List.mem_singleton.mp hq1
  refine hb p l e s m args below meth c P cl sl C σ _ (by simp [zcs, Value.category] at hw ⊢; omega) hf.2.1 (fun q hq1 => ?_)
  cases List.mem_singleton.mp hq1
  intro H locs ls hP hS hL
  exact lv_idiv C.1 C.2.1 hd hf.2.2 (k _ hq H locs ls hP hS hL)
theorem CE.irem {p1 p2 : Nat} {a b : PE Int32} (ha : CE Value.int G own cc nL d K rt w pc [p1] a) (hb : CE Value.int G own cc nL d K rt (w + 1) p1 [p2] b) (hd : decode cc p2 = .ok (.irem, 1)) (hq : p2 + 1 ∈ E) : CE Value.int G own cc nL d K rt w pc E (eD (0 : Int32) (fun x y : Int32 => x - x / y * y) a b) := by
  intro p l e s m args below meth c P cl sl C σ rest hw hf k
  refine ha p l e s m args below meth c P cl sl C σ rest hw hf.1 (fun q hq1 => ?_)
  cases List.mem_singleton.mp hq1
  refine hb p l e s m args below meth c P cl sl C σ _ (by simp [zcs, Value.category] at hw ⊢; omega) hf.2.1 (fun q hq1 => ?_)
  cases List.mem_singleton.mp hq1
  intro H locs ls hP hS hL
  exact lv_irem C.1 C.2.1 hd hf.2.2 (k _ hq H locs ls hP hS hL)
theorem CE.ldiv {p1 p2 : Nat} {a b : PE Int64} (ha : CE Value.long G own cc nL d K rt w pc [p1] a) (hb : CE Value.long G own cc nL d K rt (w + 2) p1 [p2] b) (hd : decode cc p2 = .ok (.ldiv, 1)) (hq : p2 + 1 ∈ E) : CE Value.long G own cc nL d K rt w pc E (eD (0 : Int64) (fun x y : Int64 => x / y) a b) := by
  intro p l e s m args below meth c P cl sl C σ rest hw hf k
  refine ha p l e s m args below meth c P cl sl C σ rest hw hf.1 (fun q hq1 => ?_)
  cases List.mem_singleton.mp hq1
  refine hb p l e s m args below meth c P cl sl C σ _ (by simp [zcs, Value.category] at hw ⊢; omega) hf.2.1 (fun q hq1 => ?_)
  cases List.mem_singleton.mp hq1
  intro H locs ls hP hS hL
  exact lv_ldiv C.1 C.2.1 hd hf.2.2 (k _ hq H locs ls hP hS hL)
theorem CE.lrem {p1 p2 : Nat} {a b : PE Int64} (ha : CE Value.long G own cc nL d K rt w pc [p1] a) (hb : CE Value.long G own cc nL d K rt (w + 2) p1 [p2] b) (hd : decode cc p2 = .ok (.lrem, 1)) (hq : p2 + 1 ∈ E) : CE Value.long G own cc nL d K rt w pc E (eD (0 : Int64) (fun x y : Int64 => x - x / y * y) a b) := by
  intro p l e s m args below meth c P cl sl C σ rest hw hf k
  refine ha p l e s m args below meth c P cl sl C σ rest hw hf.1 (fun q hq1 => ?_)
  cases List.mem_singleton.mp hq1
  refine hb p l e s m args below meth c P cl sl C σ _ (by simp [zcs, Value.category] at hw ⊢; omega) hf.2.1 (fun q hq1 => ?_)
  cases List.mem_singleton.mp hq1
  intro H locs ls hP hS hL
  exact lv_lrem C.1 C.2.1 hd hf.2.2 (k _ hq H locs ls hP hS hL)
theorem CE.ineg {p1 : Nat} {a : PE Int32} (ha : CE Value.int G own cc nL d K rt w pc [p1] a) (hd : decode cc p1 = .ok (.ineg, 1)) (hq : p1 + 1 ∈ E) : CE Value.int G own cc nL d K rt w pc E (eU (fun x : Int32 => -x) a) := by
  intro p l e s m args below meth c P cl sl C σ rest hw hf k
  refine ha p l e s m args below meth c P cl sl C σ rest hw hf (fun q hq1 => ?_)
  cases List.mem_singleton.mp hq1
  intro H locs ls hP hS hL
  exact lv_ineg C.1 C.2.1 hd  (k _ hq H locs ls hP hS hL)
theorem CE.lneg {p1 : Nat} {a : PE Int64} (ha : CE Value.long G own cc nL d K rt w pc [p1] a) (hd : decode cc p1 = .ok (.lneg, 1)) (hq : p1 + 1 ∈ E) : CE Value.long G own cc nL d K rt w pc E (eU (fun x : Int64 => -x) a) := by
  intro p l e s m args below meth c P cl sl C σ rest hw hf k
  refine ha p l e s m args below meth c P cl sl C σ rest hw hf (fun q hq1 => ?_)
  cases List.mem_singleton.mp hq1
  intro H locs ls hP hS hL
  exact lv_lneg C.1 C.2.1 hd  (k _ hq H locs ls hP hS hL)
theorem CE.i2l {p1 : Nat} {a : PE Int32} (ha : CE Value.int G own cc nL d K rt w pc [p1] a) (hd : decode cc p1 = .ok (.i2l, 1)) (hq : p1 + 1 ∈ E) : CE Value.long G own cc nL d K rt w pc E (eU (fun x : Int32 => x.toInt64) a) := by
  intro p l e s m args below meth c P cl sl C σ rest hw hf k
  refine ha p l e s m args below meth c P cl sl C σ rest hw hf (fun q hq1 => ?_)
  cases List.mem_singleton.mp hq1
  intro H locs ls hP hS hL
  exact lv_i2l C.1 C.2.1 hd rfl (k _ hq H locs ls hP hS hL)
theorem CE.l2i {p1 : Nat} {a : PE Int64} (ha : CE Value.long G own cc nL d K rt w pc [p1] a) (hd : decode cc p1 = .ok (.l2i, 1)) (hq : p1 + 1 ∈ E) : CE Value.int G own cc nL d K rt w pc E (eU (fun x : Int64 => x.toInt32) a) := by
  intro p l e s m args below meth c P cl sl C σ rest hw hf k
  refine ha p l e s m args below meth c P cl sl C σ rest hw hf (fun q hq1 => ?_)
  cases List.mem_singleton.mp hq1
  intro H locs ls hP hS hL
  exact lv_l2i C.1 C.2.1 hd rfl (k _ hq H locs ls hP hS hL)
theorem CE.i2b {p1 : Nat} {a : PE Int32} (ha : CE Value.int G own cc nL d K rt w pc [p1] a) (hd : decode cc p1 = .ok (.i2b, 1)) (hq : p1 + 1 ∈ E) : CE Value.int G own cc nL d K rt w pc E (eU (fun x : Int32 => x.toInt8.toInt32) a) := by
  intro p l e s m args below meth c P cl sl C σ rest hw hf k
  refine ha p l e s m args below meth c P cl sl C σ rest hw hf (fun q hq1 => ?_)
  cases List.mem_singleton.mp hq1
  intro H locs ls hP hS hL
  exact lv_i2b C.1 C.2.1 hd rfl (k _ hq H locs ls hP hS hL)
theorem CC.icmp_eq_T {p1 p2 T F : Nat} {off : Int} {a b : PE Int32} (ha : CE Value.int G own cc nL d K rt w pc [p1] a) (hb : CE Value.int G own cc nL d K rt (w + 1) p1 [p2] b) (hd : decode cc p2 = .ok (.if_icmp .eq off, 3)) (ht : (p2 : Int) + off = (T : Int)) (hn : p2 + 3 = F) : CC G own cc nL d K rt w pc T F (eB (fun x y : Int32 => decide (x = y)) a b) := by
  intro p l e s m args below meth c P cl sl C σ rest hw hf kT kF
  refine ha p l e s m args below meth c P cl sl C σ rest hw hf.1 (fun q hq1 => ?_)
  cases List.mem_singleton.mp hq1
  refine hb p l e s m args below meth c P cl sl C σ _ (by simp [zcs, Value.category] at hw ⊢; omega) hf.2 (fun q hq1 => ?_)
  cases List.mem_singleton.mp hq1
  intro H locs ls hP hS hL
  exact lv_icmp_eq C.1 C.2.1 hd ht (fun h => kT (by simp only [eB]; first | exact decide_eq_true h | exact decide_eq_false h | exact decide_eq_false (Int32.not_lt.mpr h) | exact decide_eq_false (Int32.not_le.mpr h) | exact decide_eq_true (Int32.not_lt.mp h) | exact decide_eq_true (Int32.not_le.mp h) | exact decide_eq_false (fun z => h z) | exact decide_eq_false (fun z => z h) | exact decide_eq_true (Classical.not_not.mp h)) H locs ls hP hS hL) (fun h => by rw [hn]; exact kF (by simp only [eB]; first | exact decide_eq_true h | exact decide_eq_false h | exact decide_eq_false (Int32.not_lt.mpr h) | exact decide_eq_false (Int32.not_le.mpr h) | exact decide_eq_true (Int32.not_lt.mp h) | exact decide_eq_true (Int32.not_le.mp h) | exact decide_eq_false (fun z => h z) | exact decide_eq_false (fun z => z h) | exact decide_eq_true (Classical.not_not.mp h)) H locs ls hP hS hL)
theorem CC.if_eq_T {p1 T F : Nat} {off : Int} {a : PE Int32} (ha : CE Value.int G own cc nL d K rt w pc [p1] a) (hd : decode cc p1 = .ok (.ifCond .eq off, 3)) (ht : (p1 : Int) + off = (T : Int)) (hn : p1 + 3 = F) : CC G own cc nL d K rt w pc T F (eU (fun x : Int32 => decide (x = 0)) a) := by
  intro p l e s m args below meth c P cl sl C σ rest hw hf kT kF
  refine ha p l e s m args below meth c P cl sl C σ rest hw hf (fun q hq1 => ?_)
  cases List.mem_singleton.mp hq1
  intro H locs ls hP hS hL
  exact lv_if_eq C.1 C.2.1 hd ht (fun h => kT (by simp only [eU]; first | exact decide_eq_true h | exact decide_eq_false h | exact decide_eq_false (Int32.not_lt.mpr h) | exact decide_eq_false (Int32.not_le.mpr h) | exact decide_eq_true (Int32.not_lt.mp h) | exact decide_eq_true (Int32.not_le.mp h) | exact decide_eq_false (fun z => h z) | exact decide_eq_false (fun z => z h) | exact decide_eq_true (Classical.not_not.mp h)) H locs ls hP hS hL) (fun h => by rw [hn]; exact kF (by simp only [eU]; first | exact decide_eq_true h | exact decide_eq_false h | exact decide_eq_false (Int32.not_lt.mpr h) | exact decide_eq_false (Int32.not_le.mpr h) | exact decide_eq_true (Int32.not_lt.mp h) | exact decide_eq_true (Int32.not_le.mp h) | exact decide_eq_false (fun z => h z) | exact decide_eq_false (fun z => z h) | exact decide_eq_true (Classical.not_not.mp h)) H locs ls hP hS hL)
theorem CC.icmp_eq_F {p1 p2 T F : Nat} {off : Int} {a b : PE Int32} (ha : CE Value.int G own cc nL d K rt w pc [p1] a) (hb : CE Value.int G own cc nL d K rt (w + 1) p1 [p2] b) (hd : decode cc p2 = .ok (.if_icmp .ne off, 3)) (ht : (p2 : Int) + off = (F : Int)) (hn : p2 + 3 = T) : CC G own cc nL d K rt w pc T F (eB (fun x y : Int32 => decide (x = y)) a b) := by
  intro p l e s m args below meth c P cl sl C σ rest hw hf kT kF
  refine ha p l e s m args below meth c P cl sl C σ rest hw hf.1 (fun q hq1 => ?_)
  cases List.mem_singleton.mp hq1
  refine hb p l e s m args below meth c P cl sl C σ _ (by simp [zcs, Value.category] at hw ⊢; omega) hf.2 (fun q hq1 => ?_)
  cases List.mem_singleton.mp hq1
  intro H locs ls hP hS hL
  exact lv_icmp_ne C.1 C.2.1 hd ht (fun h => kF (by simp only [eB]; first | exact decide_eq_true h | exact decide_eq_false h | exact decide_eq_false (Int32.not_lt.mpr h) | exact decide_eq_false (Int32.not_le.mpr h) | exact decide_eq_true (Int32.not_lt.mp h) | exact decide_eq_true (Int32.not_le.mp h) | exact decide_eq_false (fun z => h z) | exact decide_eq_false (fun z => z h) | exact decide_eq_true (Classical.not_not.mp h)) H locs ls hP hS hL) (fun h => by rw [hn]; exact kT (by simp only [eB]; first | exact decide_eq_true h | exact decide_eq_false h | exact decide_eq_false (Int32.not_lt.mpr h) | exact decide_eq_false (Int32.not_le.mpr h) | exact decide_eq_true (Int32.not_lt.mp h) | exact decide_eq_true (Int32.not_le.mp h) | exact decide_eq_false (fun z => h z) | exact decide_eq_false (fun z => z h) | exact decide_eq_true (Classical.not_not.mp h)) H locs ls hP hS hL)
theorem CC.if_eq_F {p1 T F : Nat} {off : Int} {a : PE Int32} (ha : CE Value.int G own cc nL d K rt w pc [p1] a) (hd : decode cc p1 = .ok (.ifCond .ne off, 3)) (ht : (p1 : Int) + off = (F : Int)) (hn : p1 + 3 = T) : CC G own cc nL d K rt w pc T F (eU (fun x : Int32 => decide (x = 0)) a) := by
  intro p l e s m args below meth c P cl sl C σ rest hw hf kT kF
  refine ha p l e s m args below meth c P cl sl C σ rest hw hf (fun q hq1 => ?_)
  cases List.mem_singleton.mp hq1
  intro H locs ls hP hS hL
  exact lv_if_ne C.1 C.2.1 hd ht (fun h => kF (by simp only [eU]; first | exact decide_eq_true h | exact decide_eq_false h | exact decide_eq_false (Int32.not_lt.mpr h) | exact decide_eq_false (Int32.not_le.mpr h) | exact decide_eq_true (Int32.not_lt.mp h) | exact decide_eq_true (Int32.not_le.mp h) | exact decide_eq_false (fun z => h z) | exact decide_eq_false (fun z => z h) | exact decide_eq_true (Classical.not_not.mp h)) H locs ls hP hS hL) (fun h => by rw [hn]; exact kT (by simp only [eU]; first | exact decide_eq_true h | exact decide_eq_false h | exact decide_eq_false (Int32.not_lt.mpr h) | exact decide_eq_false (Int32.not_le.mpr h) | exact decide_eq_true (Int32.not_lt.mp h) | exact decide_eq_true (Int32.not_le.mp h) | exact decide_eq_false (fun z => h z) | exact decide_eq_false (fun z => z h) | exact decide_eq_true (Classical.not_not.mp h)) H locs ls hP hS hL)
theorem CC.icmp_ne_T {p1 p2 T F : Nat} {off : Int} {a b : PE Int32} (ha : CE Value.int G own cc nL d K rt w pc [p1] a) (hb : CE Value.int G own cc nL d K rt (w + 1) p1 [p2] b) (hd : decode cc p2 = .ok (.if_icmp .ne off, 3)) (ht : (p2 : Int) + off = (T : Int)) (hn : p2 + 3 = F) : CC G own cc nL d K rt w pc T F (eB (fun x y : Int32 => decide (¬ x = y)) a b) := by
  intro p l e s m args below meth c P cl sl C σ rest hw hf kT kF
  refine ha p l e s m args below meth c P cl sl C σ rest hw hf.1 (fun q hq1 => ?_)
  cases List.mem_singleton.mp hq1
  refine hb p l e s m args below meth c P cl sl C σ _ (by simp [zcs, Value.category] at hw ⊢; omega) hf.2 (fun q hq1 => ?_)
  cases List.mem_singleton.mp hq1
  intro H locs ls hP hS hL
  exact lv_icmp_ne C.1 C.2.1 hd ht (fun h => kT (by simp only [eB]; first | exact decide_eq_true h | exact decide_eq_false h | exact decide_eq_false (Int32.not_lt.mpr h) | exact decide_eq_false (Int32.not_le.mpr h) | exact decide_eq_true (Int32.not_lt.mp h) | exact decide_eq_true (Int32.not_le.mp h) | exact decide_eq_false (fun z => h z) | exact decide_eq_false (fun z => z h) | exact decide_eq_true (Classical.not_not.mp h)) H locs ls hP hS hL) (fun h => by rw [hn]; exact kF (by simp only [eB]; first | exact decide_eq_true h | exact decide_eq_false h | exact decide_eq_false (Int32.not_lt.mpr h) | exact decide_eq_false (Int32.not_le.mpr h) | exact decide_eq_true (Int32.not_lt.mp h) | exact decide_eq_true (Int32.not_le.mp h) | exact decide_eq_false (fun z => h z) | exact decide_eq_false (fun z => z h) | exact decide_eq_true (Classical.not_not.mp h)) H locs ls hP hS hL)
theorem CC.if_ne_T {p1 T F : Nat} {off : Int} {a : PE Int32} (ha : CE Value.int G own cc nL d K rt w pc [p1] a) (hd : decode cc p1 = .ok (.ifCond .ne off, 3)) (ht : (p1 : Int) + off = (T : Int)) (hn : p1 + 3 = F) : CC G own cc nL d K rt w pc T F (eU (fun x : Int32 => decide (¬ x = 0)) a) := by
  intro p l e s m args below meth c P cl sl C σ rest hw hf kT kF
  refine ha p l e s m args below meth c P cl sl C σ rest hw hf (fun q hq1 => ?_)
  cases List.mem_singleton.mp hq1
  intro H locs ls hP hS hL
  exact lv_if_ne C.1 C.2.1 hd ht (fun h => kT (by simp only [eU]; first | exact decide_eq_true h | exact decide_eq_false h | exact decide_eq_false (Int32.not_lt.mpr h) | exact decide_eq_false (Int32.not_le.mpr h) | exact decide_eq_true (Int32.not_lt.mp h) | exact decide_eq_true (Int32.not_le.mp h) | exact decide_eq_false (fun z => h z) | exact decide_eq_false (fun z => z h) | exact decide_eq_true (Classical.not_not.mp h)) H locs ls hP hS hL) (fun h => by rw [hn]; exact kF (by simp only [eU]; first | exact decide_eq_true h | exact decide_eq_false h | exact decide_eq_false (Int32.not_lt.mpr h) | exact decide_eq_false (Int32.not_le.mpr h) | exact decide_eq_true (Int32.not_lt.mp h) | exact decide_eq_true (Int32.not_le.mp h) | exact decide_eq_false (fun z => h z) | exact decide_eq_false (fun z => z h) | exact decide_eq_true (Classical.not_not.mp h)) H locs ls hP hS hL)
theorem CC.icmp_ne_F {p1 p2 T F : Nat} {off : Int} {a b : PE Int32} (ha : CE Value.int G own cc nL d K rt w pc [p1] a) (hb : CE Value.int G own cc nL d K rt (w + 1) p1 [p2] b) (hd : decode cc p2 = .ok (.if_icmp .eq off, 3)) (ht : (p2 : Int) + off = (F : Int)) (hn : p2 + 3 = T) : CC G own cc nL d K rt w pc T F (eB (fun x y : Int32 => decide (¬ x = y)) a b) := by
  intro p l e s m args below meth c P cl sl C σ rest hw hf kT kF
  refine ha p l e s m args below meth c P cl sl C σ rest hw hf.1 (fun q hq1 => ?_)
  cases List.mem_singleton.mp hq1
  refine hb p l e s m args below meth c P cl sl C σ _ (by simp [zcs, Value.category] at hw ⊢; omega) hf.2 (fun q hq1 => ?_)
  cases List.mem_singleton.mp hq1
  intro H locs ls hP hS hL
  exact lv_icmp_eq C.1 C.2.1 hd ht (fun h => kF (by simp only [eB]; first | exact decide_eq_true h | exact decide_eq_false h | exact decide_eq_false (Int32.not_lt.mpr h) | exact decide_eq_false (Int32.not_le.mpr h) | exact decide_eq_true (Int32.not_lt.mp h) | exact decide_eq_true (Int32.not_le.mp h) | exact decide_eq_false (fun z => h z) | exact decide_eq_false (fun z => z h) | exact decide_eq_true (Classical.not_not.mp h)) H locs ls hP hS hL) (fun h => by rw [hn]; exact kT (by simp only [eB]; first | exact decide_eq_true h | exact decide_eq_false h | exact decide_eq_false (Int32.not_lt.mpr h) | exact decide_eq_false (Int32.not_le.mpr h) | exact decide_eq_true (Int32.not_lt.mp h) | exact decide_eq_true (Int32.not_le.mp h) | exact decide_eq_false (fun z => h z) | exact decide_eq_false (fun z => z h) | exact decide_eq_true (Classical.not_not.mp h)) H locs ls hP hS hL)
theorem CC.if_ne_F {p1 T F : Nat} {off : Int} {a : PE Int32} (ha : CE Value.int G own cc nL d K rt w pc [p1] a) (hd : decode cc p1 = .ok (.ifCond .eq off, 3)) (ht : (p1 : Int) + off = (F : Int)) (hn : p1 + 3 = T) : CC G own cc nL d K rt w pc T F (eU (fun x : Int32 => decide (¬ x = 0)) a) := by
  intro p l e s m args below meth c P cl sl C σ rest hw hf kT kF
  refine ha p l e s m args below meth c P cl sl C σ rest hw hf (fun q hq1 => ?_)
  cases List.mem_singleton.mp hq1
  intro H locs ls hP hS hL
  exact lv_if_eq C.1 C.2.1 hd ht (fun h => kF (by simp only [eU]; first | exact decide_eq_true h | exact decide_eq_false h | exact decide_eq_false (Int32.not_lt.mpr h) | exact decide_eq_false (Int32.not_le.mpr h) | exact decide_eq_true (Int32.not_lt.mp h) | exact decide_eq_true (Int32.not_le.mp h) | exact decide_eq_false (fun z => h z) | exact decide_eq_false (fun z => z h) | exact decide_eq_true (Classical.not_not.mp h)) H locs ls hP hS hL) (fun h => by rw [hn]; exact kT (by simp only [eU]; first | exact decide_eq_true h | exact decide_eq_false h | exact decide_eq_false (Int32.not_lt.mpr h) | exact decide_eq_false (Int32.not_le.mpr h) | exact decide_eq_true (Int32.not_lt.mp h) | exact decide_eq_true (Int32.not_le.mp h) | exact decide_eq_false (fun z => h z) | exact decide_eq_false (fun z => z h) | exact decide_eq_true (Classical.not_not.mp h)) H locs ls hP hS hL)
theorem CC.icmp_lt_T {p1 p2 T F : Nat} {off : Int} {a b : PE Int32} (ha : CE Value.int G own cc nL d K rt w pc [p1] a) (hb : CE Value.int G own cc nL d K rt (w + 1) p1 [p2] b) (hd : decode cc p2 = .ok (.if_icmp .lt off, 3)) (ht : (p2 : Int) + off = (T : Int)) (hn : p2 + 3 = F) : CC G own cc nL d K rt w pc T F (eB (fun x y : Int32 => decide (x < y)) a b) := by
  intro p l e s m args below meth c P cl sl C σ rest hw hf kT kF
  refine ha p l e s m args below meth c P cl sl C σ rest hw hf.1 (fun q hq1 => ?_)
  cases List.mem_singleton.mp hq1
  refine hb p l e s m args below meth c P cl sl C σ _ (by simp [zcs, Value.category] at hw ⊢; omega) hf.2 (fun q hq1 => ?_)
  cases List.mem_singleton.mp hq1
  intro H locs ls hP hS hL
  exact lv_icmp_lt C.1 C.2.1 hd ht (fun h => kT (by simp only [eB]; first | exact decide_eq_true h | exact decide_eq_false h | exact decide_eq_false (Int32.not_lt.mpr h) | exact decide_eq_false (Int32.not_le.mpr h) | exact decide_eq_true (Int32.not_lt.mp h) | exact decide_eq_true (Int32.not_le.mp h) | exact decide_eq_false (fun z => h z) | exact decide_eq_false (fun z => z h) | exact decide_eq_true (Classical.not_not.mp h)) H locs ls hP hS hL) (fun h => by rw [hn]; exact kF (by simp only [eB]; first | exact decide_eq_true h | exact decide_eq_false h | exact decide_eq_false (Int32.not_lt.mpr h) | exact decide_eq_false (Int32.not_le.mpr h) | exact decide_eq_true (Int32.not_lt.mp h) | exact decide_eq_true (Int32.not_le.mp h) | exact decide_eq_false (fun z => h z) | exact decide_eq_false (fun z => z h) | exact decide_eq_true (Classical.not_not.mp h)) H locs ls hP hS hL)
theorem CC.if_lt_T {p1 T F : Nat} {off : Int} {a : PE Int32} (ha : CE Value.int G own cc nL d K rt w pc [p1] a) (hd : decode cc p1 = .ok (.ifCond .lt off, 3)) (ht : (p1 : Int) + off = (T : Int)) (hn : p1 + 3 = F) : CC G own cc nL d K rt w pc T F (eU (fun x : Int32 => decide (x < 0)) a) := by
  intro p l e s m args below meth c P cl sl C σ rest hw hf kT kF
  refine ha p l e s m args below meth c P cl sl C σ rest hw hf (fun q hq1 => ?_)
  cases List.mem_singleton.mp hq1
  intro H locs ls hP hS hL
  exact lv_if_lt C.1 C.2.1 hd ht (fun h => kT (by simp only [eU]; first | exact decide_eq_true h | exact decide_eq_false h | exact decide_eq_false (Int32.not_lt.mpr h) | exact decide_eq_false (Int32.not_le.mpr h) | exact decide_eq_true (Int32.not_lt.mp h) | exact decide_eq_true (Int32.not_le.mp h) | exact decide_eq_false (fun z => h z) | exact decide_eq_false (fun z => z h) | exact decide_eq_true (Classical.not_not.mp h)) H locs ls hP hS hL) (fun h => by rw [hn]; exact kF (by simp only [eU]; first | exact decide_eq_true h | exact decide_eq_false h | exact decide_eq_false (Int32.not_lt.mpr h) | exact decide_eq_false (Int32.not_le.mpr h) | exact decide_eq_true (Int32.not_lt.mp h) | exact decide_eq_true (Int32.not_le.mp h) | exact decide_eq_false (fun z => h z) | exact decide_eq_false (fun z => z h) | exact decide_eq_true (Classical.not_not.mp h)) H locs ls hP hS hL)
theorem CC.icmp_lt_F {p1 p2 T F : Nat} {off : Int} {a b : PE Int32} (ha : CE Value.int G own cc nL d K rt w pc [p1] a) (hb : CE Value.int G own cc nL d K rt (w + 1) p1 [p2] b) (hd : decode cc p2 = .ok (.if_icmp .ge off, 3)) (ht : (p2 : Int) + off = (F : Int)) (hn : p2 + 3 = T) : CC G own cc nL d K rt w pc T F (eB (fun x y : Int32 => decide (x < y)) a b) := by
  intro p l e s m args below meth c P cl sl C σ rest hw hf kT kF
  refine ha p l e s m args below meth c P cl sl C σ rest hw hf.1 (fun q hq1 => ?_)
  cases List.mem_singleton.mp hq1
  refine hb p l e s m args below meth c P cl sl C σ _ (by simp [zcs, Value.category] at hw ⊢; omega) hf.2 (fun q hq1 => ?_)
  cases List.mem_singleton.mp hq1
  intro H locs ls hP hS hL
  exact lv_icmp_ge C.1 C.2.1 hd ht (fun h => kF (by simp only [eB]; first | exact decide_eq_true h | exact decide_eq_false h | exact decide_eq_false (Int32.not_lt.mpr h) | exact decide_eq_false (Int32.not_le.mpr h) | exact decide_eq_true (Int32.not_lt.mp h) | exact decide_eq_true (Int32.not_le.mp h) | exact decide_eq_false (fun z => h z) | exact decide_eq_false (fun z => z h) | exact decide_eq_true (Classical.not_not.mp h)) H locs ls hP hS hL) (fun h => by rw [hn]; exact kT (by simp only [eB]; first | exact decide_eq_true h | exact decide_eq_false h | exact decide_eq_false (Int32.not_lt.mpr h) | exact decide_eq_false (Int32.not_le.mpr h) | exact decide_eq_true (Int32.not_lt.mp h) | exact decide_eq_true (Int32.not_le.mp h) | exact decide_eq_false (fun z => h z) | exact decide_eq_false (fun z => z h) | exact decide_eq_true (Classical.not_not.mp h)) H locs ls hP hS hL)
theorem CC.if_lt_F {p1 T F : Nat} {off : Int} {a : PE Int32} (ha : CE Value.int G own cc nL d K rt w pc [p1] a) (hd : decode cc p1 = .ok (.ifCond .ge off, 3)) (ht : (p1 : Int) + off = (F : Int)) (hn : p1 + 3 = T) : CC G own cc nL d K rt w pc T F (eU (fun x : Int32 => decide (x < 0)) a) := by
  intro p l e s m args below meth c P cl sl C σ rest hw hf kT kF
  refine ha p l e s m args below meth c P cl sl C σ rest hw hf (fun q hq1 => ?_)
  cases List.mem_singleton.mp hq1
  intro H locs ls hP hS hL
  exact lv_if_ge C.1 C.2.1 hd ht (fun h => kF (by simp only [eU]; first | exact decide_eq_true h | exact decide_eq_false h | exact decide_eq_false (Int32.not_lt.mpr h) | exact decide_eq_false (Int32.not_le.mpr h) | exact decide_eq_true (Int32.not_lt.mp h) | exact decide_eq_true (Int32.not_le.mp h) | exact decide_eq_false (fun z => h z) | exact decide_eq_false (fun z => z h) | exact decide_eq_true (Classical.not_not.mp h)) H locs ls hP hS hL) (fun h => by rw [hn]; exact kT (by simp only [eU]; first | exact decide_eq_true h | exact decide_eq_false h | exact decide_eq_false (Int32.not_lt.mpr h) | exact decide_eq_false (Int32.not_le.mpr h) | exact decide_eq_true (Int32.not_lt.mp h) | exact decide_eq_true (Int32.not_le.mp h) | exact decide_eq_false (fun z => h z) | exact decide_eq_false (fun z => z h) | exact decide_eq_true (Classical.not_not.mp h)) H locs ls hP hS hL)
theorem CC.icmp_ge_T {p1 p2 T F : Nat} {off : Int} {a b : PE Int32} (ha : CE Value.int G own cc nL d K rt w pc [p1] a) (hb : CE Value.int G own cc nL d K rt (w + 1) p1 [p2] b) (hd : decode cc p2 = .ok (.if_icmp .ge off, 3)) (ht : (p2 : Int) + off = (T : Int)) (hn : p2 + 3 = F) : CC G own cc nL d K rt w pc T F (eB (fun x y : Int32 => decide (y ≤ x)) a b) := by
  intro p l e s m args below meth c P cl sl C σ rest hw hf kT kF
  refine ha p l e s m args below meth c P cl sl C σ rest hw hf.1 (fun q hq1 => ?_)
  cases List.mem_singleton.mp hq1
  refine hb p l e s m args below meth c P cl sl C σ _ (by simp [zcs, Value.category] at hw ⊢; omega) hf.2 (fun q hq1 => ?_)
  cases List.mem_singleton.mp hq1
  intro H locs ls hP hS hL
  exact lv_icmp_ge C.1 C.2.1 hd ht (fun h => kT (by simp only [eB]; first | exact decide_eq_true h | exact decide_eq_false h | exact decide_eq_false (Int32.not_lt.mpr h) | exact decide_eq_false (Int32.not_le.mpr h) | exact decide_eq_true (Int32.not_lt.mp h) | exact decide_eq_true (Int32.not_le.mp h) | exact decide_eq_false (fun z => h z) | exact decide_eq_false (fun z => z h) | exact decide_eq_true (Classical.not_not.mp h)) H locs ls hP hS hL) (fun h => by rw [hn]; exact kF (by simp only [eB]; first | exact decide_eq_true h | exact decide_eq_false h | exact decide_eq_false (Int32.not_lt.mpr h) | exact decide_eq_false (Int32.not_le.mpr h) | exact decide_eq_true (Int32.not_lt.mp h) | exact decide_eq_true (Int32.not_le.mp h) | exact decide_eq_false (fun z => h z) | exact decide_eq_false (fun z => z h) | exact decide_eq_true (Classical.not_not.mp h)) H locs ls hP hS hL)
theorem CC.if_ge_T {p1 T F : Nat} {off : Int} {a : PE Int32} (ha : CE Value.int G own cc nL d K rt w pc [p1] a) (hd : decode cc p1 = .ok (.ifCond .ge off, 3)) (ht : (p1 : Int) + off = (T : Int)) (hn : p1 + 3 = F) : CC G own cc nL d K rt w pc T F (eU (fun x : Int32 => decide (0 ≤ x)) a) := by
  intro p l e s m args below meth c P cl sl C σ rest hw hf kT kF
  refine ha p l e s m args below meth c P cl sl C σ rest hw hf (fun q hq1 => ?_)
  cases List.mem_singleton.mp hq1
  intro H locs ls hP hS hL
  exact lv_if_ge C.1 C.2.1 hd ht (fun h => kT (by simp only [eU]; first | exact decide_eq_true h | exact decide_eq_false h | exact decide_eq_false (Int32.not_lt.mpr h) | exact decide_eq_false (Int32.not_le.mpr h) | exact decide_eq_true (Int32.not_lt.mp h) | exact decide_eq_true (Int32.not_le.mp h) | exact decide_eq_false (fun z => h z) | exact decide_eq_false (fun z => z h) | exact decide_eq_true (Classical.not_not.mp h)) H locs ls hP hS hL) (fun h => by rw [hn]; exact kF (by simp only [eU]; first | exact decide_eq_true h | exact decide_eq_false h | exact decide_eq_false (Int32.not_lt.mpr h) | exact decide_eq_false (Int32.not_le.mpr h) | exact decide_eq_true (Int32.not_lt.mp h) | exact decide_eq_true (Int32.not_le.mp h) | exact decide_eq_false (fun z => h z) | exact decide_eq_false (fun z => z h) | exact decide_eq_true (Classical.not_not.mp h)) H locs ls hP hS hL)
theorem CC.icmp_ge_F {p1 p2 T F : Nat} {off : Int} {a b : PE Int32} (ha : CE Value.int G own cc nL d K rt w pc [p1] a) (hb : CE Value.int G own cc nL d K rt (w + 1) p1 [p2] b) (hd : decode cc p2 = .ok (.if_icmp .lt off, 3)) (ht : (p2 : Int) + off = (F : Int)) (hn : p2 + 3 = T) : CC G own cc nL d K rt w pc T F (eB (fun x y : Int32 => decide (y ≤ x)) a b) := by
  intro p l e s m args below meth c P cl sl C σ rest hw hf kT kF
  refine ha p l e s m args below meth c P cl sl C σ rest hw hf.1 (fun q hq1 => ?_)
  cases List.mem_singleton.mp hq1
  refine hb p l e s m args below meth c P cl sl C σ _ (by simp [zcs, Value.category] at hw ⊢; omega) hf.2 (fun q hq1 => ?_)
  cases List.mem_singleton.mp hq1
  intro H locs ls hP hS hL
  exact lv_icmp_lt C.1 C.2.1 hd ht (fun h => kF (by simp only [eB]; first | exact decide_eq_true h | exact decide_eq_false h | exact decide_eq_false (Int32.not_lt.mpr h) | exact decide_eq_false (Int32.not_le.mpr h) | exact decide_eq_true (Int32.not_lt.mp h) | exact decide_eq_true (Int32.not_le.mp h) | exact decide_eq_false (fun z => h z) | exact decide_eq_false (fun z => z h) | exact decide_eq_true (Classical.not_not.mp h)) H locs ls hP hS hL) (fun h => by rw [hn]; exact kT (by simp only [eB]; first | exact decide_eq_true h | exact decide_eq_false h | exact decide_eq_false (Int32.not_lt.mpr h) | exact decide_eq_false (Int32.not_le.mpr h) | exact decide_eq_true (Int32.not_lt.mp h) | exact decide_eq_true (Int32.not_le.mp h) | exact decide_eq_false (fun z => h z) | exact decide_eq_false (fun z => z h) | exact decide_eq_true (Classical.not_not.mp h)) H locs ls hP hS hL)
theorem CC.if_ge_F {p1 T F : Nat} {off : Int} {a : PE Int32} (ha : CE Value.int G own cc nL d K rt w pc [p1] a) (hd : decode cc p1 = .ok (.ifCond .lt off, 3)) (ht : (p1 : Int) + off = (F : Int)) (hn : p1 + 3 = T) : CC G own cc nL d K rt w pc T F (eU (fun x : Int32 => decide (0 ≤ x)) a) := by
  intro p l e s m args below meth c P cl sl C σ rest hw hf kT kF
  refine ha p l e s m args below meth c P cl sl C σ rest hw hf (fun q hq1 => ?_)
  cases List.mem_singleton.mp hq1
  intro H locs ls hP hS hL
  exact lv_if_lt C.1 C.2.1 hd ht (fun h => kF (by simp only [eU]; first | exact decide_eq_true h | exact decide_eq_false h | exact decide_eq_false (Int32.not_lt.mpr h) | exact decide_eq_false (Int32.not_le.mpr h) | exact decide_eq_true (Int32.not_lt.mp h) | exact decide_eq_true (Int32.not_le.mp h) | exact decide_eq_false (fun z => h z) | exact decide_eq_false (fun z => z h) | exact decide_eq_true (Classical.not_not.mp h)) H locs ls hP hS hL) (fun h => by rw [hn]; exact kT (by simp only [eU]; first | exact decide_eq_true h | exact decide_eq_false h | exact decide_eq_false (Int32.not_lt.mpr h) | exact decide_eq_false (Int32.not_le.mpr h) | exact decide_eq_true (Int32.not_lt.mp h) | exact decide_eq_true (Int32.not_le.mp h) | exact decide_eq_false (fun z => h z) | exact decide_eq_false (fun z => z h) | exact decide_eq_true (Classical.not_not.mp h)) H locs ls hP hS hL)
theorem CC.icmp_gt_T {p1 p2 T F : Nat} {off : Int} {a b : PE Int32} (ha : CE Value.int G own cc nL d K rt w pc [p1] a) (hb : CE Value.int G own cc nL d K rt (w + 1) p1 [p2] b) (hd : decode cc p2 = .ok (.if_icmp .gt off, 3)) (ht : (p2 : Int) + off = (T : Int)) (hn : p2 + 3 = F) : CC G own cc nL d K rt w pc T F (eB (fun x y : Int32 => decide (y < x)) a b) := by
  intro p l e s m args below meth c P cl sl C σ rest hw hf kT kF
  refine ha p l e s m args below meth c P cl sl C σ rest hw hf.1 (fun q hq1 => ?_)
  cases List.mem_singleton.mp hq1
  refine hb p l e s m args below meth c P cl sl C σ _ (by simp [zcs, Value.category] at hw ⊢; omega) hf.2 (fun q hq1 => ?_)
  cases List.mem_singleton.mp hq1
  intro H locs ls hP hS hL
  exact lv_icmp_gt C.1 C.2.1 hd ht (fun h => kT (by simp only [eB]; first | exact decide_eq_true h | exact decide_eq_false h | exact decide_eq_false (Int32.not_lt.mpr h) | exact decide_eq_false (Int32.not_le.mpr h) | exact decide_eq_true (Int32.not_lt.mp h) | exact decide_eq_true (Int32.not_le.mp h) | exact decide_eq_false (fun z => h z) | exact decide_eq_false (fun z => z h) | exact decide_eq_true (Classical.not_not.mp h)) H locs ls hP hS hL) (fun h => by rw [hn]; exact kF (by simp only [eB]; first | exact decide_eq_true h | exact decide_eq_false h | exact decide_eq_false (Int32.not_lt.mpr h) | exact decide_eq_false (Int32.not_le.mpr h) | exact decide_eq_true (Int32.not_lt.mp h) | exact decide_eq_true (Int32.not_le.mp h) | exact decide_eq_false (fun z => h z) | exact decide_eq_false (fun z => z h) | exact decide_eq_true (Classical.not_not.mp h)) H locs ls hP hS hL)
theorem CC.if_gt_T {p1 T F : Nat} {off : Int} {a : PE Int32} (ha : CE Value.int G own cc nL d K rt w pc [p1] a) (hd : decode cc p1 = .ok (.ifCond .gt off, 3)) (ht : (p1 : Int) + off = (T : Int)) (hn : p1 + 3 = F) : CC G own cc nL d K rt w pc T F (eU (fun x : Int32 => decide (0 < x)) a) := by
  intro p l e s m args below meth c P cl sl C σ rest hw hf kT kF
  refine ha p l e s m args below meth c P cl sl C σ rest hw hf (fun q hq1 => ?_)
  cases List.mem_singleton.mp hq1
  intro H locs ls hP hS hL
  exact lv_if_gt C.1 C.2.1 hd ht (fun h => kT (by simp only [eU]; first | exact decide_eq_true h | exact decide_eq_false h | exact decide_eq_false (Int32.not_lt.mpr h) | exact decide_eq_false (Int32.not_le.mpr h) | exact decide_eq_true (Int32.not_lt.mp h) | exact decide_eq_true (Int32.not_le.mp h) | exact decide_eq_false (fun z => h z) | exact decide_eq_false (fun z => z h) | exact decide_eq_true (Classical.not_not.mp h)) H locs ls hP hS hL) (fun h => by rw [hn]; exact kF (by simp only [eU]; first | exact decide_eq_true h | exact decide_eq_false h | exact decide_eq_false (Int32.not_lt.mpr h) | exact decide_eq_false (Int32.not_le.mpr h) | exact decide_eq_true (Int32.not_lt.mp h) | exact decide_eq_true (Int32.not_le.mp h) | exact decide_eq_false (fun z => h z) | exact decide_eq_false (fun z => z h) | exact decide_eq_true (Classical.not_not.mp h)) H locs ls hP hS hL)
theorem CC.icmp_gt_F {p1 p2 T F : Nat} {off : Int} {a b : PE Int32} (ha : CE Value.int G own cc nL d K rt w pc [p1] a) (hb : CE Value.int G own cc nL d K rt (w + 1) p1 [p2] b) (hd : decode cc p2 = .ok (.if_icmp .le off, 3)) (ht : (p2 : Int) + off = (F : Int)) (hn : p2 + 3 = T) : CC G own cc nL d K rt w pc T F (eB (fun x y : Int32 => decide (y < x)) a b) := by
  intro p l e s m args below meth c P cl sl C σ rest hw hf kT kF
  refine ha p l e s m args below meth c P cl sl C σ rest hw hf.1 (fun q hq1 => ?_)
  cases List.mem_singleton.mp hq1
  refine hb p l e s m args below meth c P cl sl C σ _ (by simp [zcs, Value.category] at hw ⊢; omega) hf.2 (fun q hq1 => ?_)
  cases List.mem_singleton.mp hq1
  intro H locs ls hP hS hL
  exact lv_icmp_le C.1 C.2.1 hd ht (fun h => kF (by simp only [eB]; first | exact decide_eq_true h | exact decide_eq_false h | exact decide_eq_false (Int32.not_lt.mpr h) | exact decide_eq_false (Int32.not_le.mpr h) | exact decide_eq_true (Int32.not_lt.mp h) | exact decide_eq_true (Int32.not_le.mp h) | exact decide_eq_false (fun z => h z) | exact decide_eq_false (fun z => z h) | exact decide_eq_true (Classical.not_not.mp h)) H locs ls hP hS hL) (fun h => by rw [hn]; exact kT (by simp only [eB]; first | exact decide_eq_true h | exact decide_eq_false h | exact decide_eq_false (Int32.not_lt.mpr h) | exact decide_eq_false (Int32.not_le.mpr h) | exact decide_eq_true (Int32.not_lt.mp h) | exact decide_eq_true (Int32.not_le.mp h) | exact decide_eq_false (fun z => h z) | exact decide_eq_false (fun z => z h) | exact decide_eq_true (Classical.not_not.mp h)) H locs ls hP hS hL)
theorem CC.if_gt_F {p1 T F : Nat} {off : Int} {a : PE Int32} (ha : CE Value.int G own cc nL d K rt w pc [p1] a) (hd : decode cc p1 = .ok (.ifCond .le off, 3)) (ht : (p1 : Int) + off = (F : Int)) (hn : p1 + 3 = T) : CC G own cc nL d K rt w pc T F (eU (fun x : Int32 => decide (0 < x)) a) := by
  intro p l e s m args below meth c P cl sl C σ rest hw hf kT kF
  refine ha p l e s m args below meth c P cl sl C σ rest hw hf (fun q hq1 => ?_)
  cases List.mem_singleton.mp hq1
  intro H locs ls hP hS hL
  exact lv_if_le C.1 C.2.1 hd ht (fun h => kF (by simp only [eU]; first | exact decide_eq_true h | exact decide_eq_false h | exact decide_eq_false (Int32.not_lt.mpr h) | exact decide_eq_false (Int32.not_le.mpr h) | exact decide_eq_true (Int32.not_lt.mp h) | exact decide_eq_true (Int32.not_le.mp h) | exact decide_eq_false (fun z => h z) | exact decide_eq_false (fun z => z h) | exact decide_eq_true (Classical.not_not.mp h)) H locs ls hP hS hL) (fun h => by rw [hn]; exact kT (by simp only [eU]; first | exact decide_eq_true h | exact decide_eq_false h | exact decide_eq_false (Int32.not_lt.mpr h) | exact decide_eq_false (Int32.not_le.mpr h) | exact decide_eq_true (Int32.not_lt.mp h) | exact decide_eq_true (Int32.not_le.mp h) | exact decide_eq_false (fun z => h z) | exact decide_eq_false (fun z => z h) | exact decide_eq_true (Classical.not_not.mp h)) H locs ls hP hS hL)
theorem CC.icmp_le_T {p1 p2 T F : Nat} {off : Int} {a b : PE Int32} (ha : CE Value.int G own cc nL d K rt w pc [p1] a) (hb : CE Value.int G own cc nL d K rt (w + 1) p1 [p2] b) (hd : decode cc p2 = .ok (.if_icmp .le off, 3)) (ht : (p2 : Int) + off = (T : Int)) (hn : p2 + 3 = F) : CC G own cc nL d K rt w pc T F (eB (fun x y : Int32 => decide (x ≤ y)) a b) := by
  intro p l e s m args below meth c P cl sl C σ rest hw hf kT kF
  refine ha p l e s m args below meth c P cl sl C σ rest hw hf.1 (fun q hq1 => ?_)
  cases List.mem_singleton.mp hq1
  refine hb p l e s m args below meth c P cl sl C σ _ (by simp [zcs, Value.category] at hw ⊢; omega) hf.2 (fun q hq1 => ?_)
  cases List.mem_singleton.mp hq1
  intro H locs ls hP hS hL
  exact lv_icmp_le C.1 C.2.1 hd ht (fun h => kT (by simp only [eB]; first | exact decide_eq_true h | exact decide_eq_false h | exact decide_eq_false (Int32.not_lt.mpr h) | exact decide_eq_false (Int32.not_le.mpr h) | exact decide_eq_true (Int32.not_lt.mp h) | exact decide_eq_true (Int32.not_le.mp h) | exact decide_eq_false (fun z => h z) | exact decide_eq_false (fun z => z h) | exact decide_eq_true (Classical.not_not.mp h)) H locs ls hP hS hL) (fun h => by rw [hn]; exact kF (by simp only [eB]; first | exact decide_eq_true h | exact decide_eq_false h | exact decide_eq_false (Int32.not_lt.mpr h) | exact decide_eq_false (Int32.not_le.mpr h) | exact decide_eq_true (Int32.not_lt.mp h) | exact decide_eq_true (Int32.not_le.mp h) | exact decide_eq_false (fun z => h z) | exact decide_eq_false (fun z => z h) | exact decide_eq_true (Classical.not_not.mp h)) H locs ls hP hS hL)
theorem CC.if_le_T {p1 T F : Nat} {off : Int} {a : PE Int32} (ha : CE Value.int G own cc nL d K rt w pc [p1] a) (hd : decode cc p1 = .ok (.ifCond .le off, 3)) (ht : (p1 : Int) + off = (T : Int)) (hn : p1 + 3 = F) : CC G own cc nL d K rt w pc T F (eU (fun x : Int32 => decide (x ≤ 0)) a) := by
  intro p l e s m args below meth c P cl sl C σ rest hw hf kT kF
  refine ha p l e s m args below meth c P cl sl C σ rest hw hf (fun q hq1 => ?_)
  cases List.mem_singleton.mp hq1
  intro H locs ls hP hS hL
  exact lv_if_le C.1 C.2.1 hd ht (fun h => kT (by simp only [eU]; first | exact decide_eq_true h | exact decide_eq_false h | exact decide_eq_false (Int32.not_lt.mpr h) | exact decide_eq_false (Int32.not_le.mpr h) | exact decide_eq_true (Int32.not_lt.mp h) | exact decide_eq_true (Int32.not_le.mp h) | exact decide_eq_false (fun z => h z) | exact decide_eq_false (fun z => z h) | exact decide_eq_true (Classical.not_not.mp h)) H locs ls hP hS hL) (fun h => by rw [hn]; exact kF (by simp only [eU]; first | exact decide_eq_true h | exact decide_eq_false h | exact decide_eq_false (Int32.not_lt.mpr h) | exact decide_eq_false (Int32.not_le.mpr h) | exact decide_eq_true (Int32.not_lt.mp h) | exact decide_eq_true (Int32.not_le.mp h) | exact decide_eq_false (fun z => h z) | exact decide_eq_false (fun z => z h) | exact decide_eq_true (Classical.not_not.mp h)) H locs ls hP hS hL)
theorem CC.icmp_le_F {p1 p2 T F : Nat} {off : Int} {a b : PE Int32} (ha : CE Value.int G own cc nL d K rt w pc [p1] a) (hb : CE Value.int G own cc nL d K rt (w + 1) p1 [p2] b) (hd : decode cc p2 = .ok (.if_icmp .gt off, 3)) (ht : (p2 : Int) + off = (F : Int)) (hn : p2 + 3 = T) : CC G own cc nL d K rt w pc T F (eB (fun x y : Int32 => decide (x ≤ y)) a b) := by
  intro p l e s m args below meth c P cl sl C σ rest hw hf kT kF
  refine ha p l e s m args below meth c P cl sl C σ rest hw hf.1 (fun q hq1 => ?_)
  cases List.mem_singleton.mp hq1
  refine hb p l e s m args below meth c P cl sl C σ _ (by simp [zcs, Value.category] at hw ⊢; omega) hf.2 (fun q hq1 => ?_)
  cases List.mem_singleton.mp hq1
  intro H locs ls hP hS hL
  exact lv_icmp_gt C.1 C.2.1 hd ht (fun h => kF (by simp only [eB]; first | exact decide_eq_true h | exact decide_eq_false h | exact decide_eq_false (Int32.not_lt.mpr h) | exact decide_eq_false (Int32.not_le.mpr h) | exact decide_eq_true (Int32.not_lt.mp h) | exact decide_eq_true (Int32.not_le.mp h) | exact decide_eq_false (fun z => h z) | exact decide_eq_false (fun z => z h) | exact decide_eq_true (Classical.not_not.mp h)) H locs ls hP hS hL) (fun h => by rw [hn]; exact kT (by simp only [eB]; first | exact decide_eq_true h | exact decide_eq_false h | exact decide_eq_false (Int32.not_lt.mpr h) | exact decide_eq_false (Int32.not_le.mpr h) | exact decide_eq_true (Int32.not_lt.mp h) | exact decide_eq_true (Int32.not_le.mp h) | exact decide_eq_false (fun z => h z) | exact decide_eq_false (fun z => z h) | exact decide_eq_true (Classical.not_not.mp h)) H locs ls hP hS hL)
theorem CC.if_le_F {p1 T F : Nat} {off : Int} {a : PE Int32} (ha : CE Value.int G own cc nL d K rt w pc [p1] a) (hd : decode cc p1 = .ok (.ifCond .gt off, 3)) (ht : (p1 : Int) + off = (F : Int)) (hn : p1 + 3 = T) : CC G own cc nL d K rt w pc T F (eU (fun x : Int32 => decide (x ≤ 0)) a) := by
  intro p l e s m args below meth c P cl sl C σ rest hw hf kT kF
  refine ha p l e s m args below meth c P cl sl C σ rest hw hf (fun q hq1 => ?_)
  cases List.mem_singleton.mp hq1
  intro H locs ls hP hS hL
  exact lv_if_gt C.1 C.2.1 hd ht (fun h => kF (by simp only [eU]; first | exact decide_eq_true h | exact decide_eq_false h | exact decide_eq_false (Int32.not_lt.mpr h) | exact decide_eq_false (Int32.not_le.mpr h) | exact decide_eq_true (Int32.not_lt.mp h) | exact decide_eq_true (Int32.not_le.mp h) | exact decide_eq_false (fun z => h z) | exact decide_eq_false (fun z => z h) | exact decide_eq_true (Classical.not_not.mp h)) H locs ls hP hS hL) (fun h => by rw [hn]; exact kT (by simp only [eU]; first | exact decide_eq_true h | exact decide_eq_false h | exact decide_eq_false (Int32.not_lt.mpr h) | exact decide_eq_false (Int32.not_le.mpr h) | exact decide_eq_true (Int32.not_lt.mp h) | exact decide_eq_true (Int32.not_le.mp h) | exact decide_eq_false (fun z => h z) | exact decide_eq_false (fun z => z h) | exact decide_eq_true (Classical.not_not.mp h)) H locs ls hP hS hL)
theorem CC.lcmp_eq_T {p1 p2 T F : Nat} {off : Int} {a b : PE Int64} (ha : CE Value.long G own cc nL d K rt w pc [p1] a) (hb : CE Value.long G own cc nL d K rt (w + 2) p1 [p2] b) (hc : decode cc p2 = .ok (.lcmp, 1)) (hd : decode cc (p2 + 1) = .ok (.ifCond .eq off, 3)) (ht : ((p2 + 1 : Nat) : Int) + off = (T : Int)) (hn : p2 + 1 + 3 = F) : CC G own cc nL d K rt w pc T F (eB (fun x y : Int64 => decide (x = y)) a b) := by
  intro p l e s m args below meth c P cl sl C σ rest hw hf kT kF
  refine ha p l e s m args below meth c P cl sl C σ rest hw hf.1 (fun q hq1 => ?_)
  cases List.mem_singleton.mp hq1
  refine hb p l e s m args below meth c P cl sl C σ _ (by simp [zcs, Value.category] at hw ⊢; omega) hf.2 (fun q hq1 => ?_)
  cases List.mem_singleton.mp hq1
  intro H locs ls hP hS hL
  refine W.lcmp C.1 C.2.1 hc ?_
  exact lv_if_eq C.1 C.2.1 hd ht (fun h => kT (by have h := (lg_cmp_eq (a σ).2 (b σ).2).mp h; exact (by simp only [eB]; first | exact decide_eq_true h | exact decide_eq_false h | exact decide_eq_false (Int64.not_lt.mpr h) | exact decide_eq_false (Int64.not_le.mpr h) | exact decide_eq_true (Int64.not_lt.mp h) | exact decide_eq_true (Int64.not_le.mp h) | exact decide_eq_false (fun z => h z) | exact decide_eq_false (fun z => z h) | exact decide_eq_true (Classical.not_not.mp h))) H locs ls hP hS hL) (fun h => by rw [hn]; exact kF (by have h := (not_congr (lg_cmp_eq (a σ).2 (b σ).2)).mp h; exact (by simp only [eB]; first | exact decide_eq_true h | exact decide_eq_false h | exact decide_eq_false (Int64.not_lt.mpr h) | exact decide_eq_false (Int64.not_le.mpr h) | exact decide_eq_true (Int64.not_lt.mp h) | exact decide_eq_true (Int64.not_le.mp h) | exact decide_eq_false (fun z => h z) | exact decide_eq_false (fun z => z h) | exact decide_eq_true (Classical.not_not.mp h))) H locs ls hP hS hL)
theorem CC.lcmp_eq_F {p1 p2 T F : Nat} {off : Int} {a b : PE Int64} (ha : CE Value.long G own cc nL d K rt w pc [p1] a) (hb : CE Value.long G own cc nL d K rt (w + 2) p1 [p2] b) (hc : decode cc p2 = .ok (.lcmp, 1)) (hd : decode cc (p2 + 1) = .ok (.ifCond .ne off, 3)) (ht : ((p2 + 1 : Nat) : Int) + off = (F : Int)) (hn : p2 + 1 + 3 = T) : CC G own cc nL d K rt w pc T F (eB (fun x y : Int64 => decide (x = y)) a b) := by
  intro p l e s m args below meth c P cl sl C σ rest hw hf kT kF
  refine ha p l e s m args below meth c P cl sl C σ rest hw hf.1 (fun q hq1 => ?_)
  cases List.mem_singleton.mp hq1
  refine hb p l e s m args below meth c P cl sl C σ _ (by simp [zcs, Value.category] at hw ⊢; omega) hf.2 (fun q hq1 => ?_)
  cases List.mem_singleton.mp hq1
  intro H locs ls hP hS hL
  refine W.lcmp C.1 C.2.1 hc ?_
  exact lv_if_ne C.1 C.2.1 hd ht (fun h => kF (by have h := (not_congr (lg_cmp_eq (a σ).2 (b σ).2)).mp h; exact (by simp only [eB]; first | exact decide_eq_true h | exact decide_eq_false h | exact decide_eq_false (Int64.not_lt.mpr h) | exact decide_eq_false (Int64.not_le.mpr h) | exact decide_eq_true (Int64.not_lt.mp h) | exact decide_eq_true (Int64.not_le.mp h) | exact decide_eq_false (fun z => h z) | exact decide_eq_false (fun z => z h) | exact decide_eq_true (Classical.not_not.mp h))) H locs ls hP hS hL) (fun h => by rw [hn]; exact kT (by have h := (lg_cmp_eq (a σ).2 (b σ).2).mp h; exact (by simp only [eB]; first | exact decide_eq_true h | exact decide_eq_false h | exact decide_eq_false (Int64.not_lt.mpr h) | exact decide_eq_false (Int64.not_le.mpr h) | exact decide_eq_true (Int64.not_lt.mp h) | exact decide_eq_true (Int64.not_le.mp h) | exact decide_eq_false (fun z => h z) | exact decide_eq_false (fun z => z h) | exact decide_eq_true (Classical.not_not.mp h))) H locs ls hP hS hL)
theorem CC.lcmp_ne_T {p1 p2 T F : Nat} {off : Int} {a b : PE Int64} (ha : CE Value.long G own cc nL d K rt w pc [p1] a) (hb : CE Value.long G own cc nL d K rt (w + 2) p1 [p2] b) (hc : decode cc p2 = .ok (.lcmp, 1)) (hd : decode cc (p2 + 1) = .ok (.ifCond .ne off, 3)) (ht : ((p2 + 1 : Nat) : Int) + off = (T : Int)) (hn : p2 + 1 + 3 = F) : CC G own cc nL d K rt w pc T F (eB (fun x y : Int64 => decide (¬ x = y)) a b) := by
  intro p l e s m args below meth c P cl sl C σ rest hw hf kT kF
  refine ha p l e s m args below meth c P cl sl C σ rest hw hf.1 (fun q hq1 => ?_)
  cases List.mem_singleton.mp hq1
  refine hb p l e s m args below meth c P cl sl C σ _ (by simp [zcs, Value.category] at hw ⊢; omega) hf.2 (fun q hq1 => ?_)
  cases List.mem_singleton.mp hq1
  intro H locs ls hP hS hL
  refine W.lcmp C.1 C.2.1 hc ?_
  exact lv_if_ne C.1 C.2.1 hd ht (fun h => kT (by have h := (not_congr (lg_cmp_eq (a σ).2 (b σ).2)).mp h; exact (by simp only [eB]; first | exact decide_eq_true h | exact decide_eq_false h | exact decide_eq_false (Int64.not_lt.mpr h) | exact decide_eq_false (Int64.not_le.mpr h) | exact decide_eq_true (Int64.not_lt.mp h) | exact decide_eq_true (Int64.not_le.mp h) | exact decide_eq_false (fun z => h z) | exact decide_eq_false (fun z => z h) | exact decide_eq_true (Classical.not_not.mp h))) H locs ls hP hS hL) (fun h => by rw [hn]; exact kF (by have h := (lg_cmp_eq (a σ).2 (b σ).2).mp h; exact (by simp only [eB]; first | exact decide_eq_true h | exact decide_eq_false h | exact decide_eq_false (Int64.not_lt.mpr h) | exact decide_eq_false (Int64.not_le.mpr h) | exact decide_eq_true (Int64.not_lt.mp h) | exact decide_eq_true (Int64.not_le.mp h) | exact decide_eq_false (fun z => h z) | exact decide_eq_false (fun z => z h) | exact decide_eq_true (Classical.not_not.mp h))) H locs ls hP hS hL)
theorem CC.lcmp_ne_F {p1 p2 T F : Nat} {off : Int} {a b : PE Int64} (ha : CE Value.long G own cc nL d K rt w pc [p1] a) (hb : CE Value.long G own cc nL d K rt (w + 2) p1 [p2] b) (hc : decode cc p2 = .ok (.lcmp, 1)) (hd : decode cc (p2 + 1) = .ok (.ifCond .eq off, 3)) (ht : ((p2 + 1 : Nat) : Int) + off = (F : Int)) (hn : p2 + 1 + 3 = T) : CC G own cc nL d K rt w pc T F (eB (fun x y : Int64 => decide (¬ x = y)) a b) := by
  intro p l e s m args below meth c P cl sl C σ rest hw hf kT kF
  refine ha p l e s m args below meth c P cl sl C σ rest hw hf.1 (fun q hq1 => ?_)
  cases List.mem_singleton.mp hq1
  refine hb p l e s m args below meth c P cl sl C σ _ (by simp [zcs, Value.category] at hw ⊢; omega) hf.2 (fun q hq1 => ?_)
  cases List.mem_singleton.mp hq1
  intro H locs ls hP hS hL
  refine W.lcmp C.1 C.2.1 hc ?_
  exact lv_if_eq C.1 C.2.1 hd ht (fun h => kF (by have h := (lg_cmp_eq (a σ).2 (b σ).2).mp h; exact (by simp only [eB]; first | exact decide_eq_true h | exact decide_eq_false h | exact decide_eq_false (Int64.not_lt.mpr h) | exact decide_eq_false (Int64.not_le.mpr h) | exact decide_eq_true (Int64.not_lt.mp h) | exact decide_eq_true (Int64.not_le.mp h) | exact decide_eq_false (fun z => h z) | exact decide_eq_false (fun z => z h) | exact decide_eq_true (Classical.not_not.mp h))) H locs ls hP hS hL) (fun h => by rw [hn]; exact kT (by have h := (not_congr (lg_cmp_eq (a σ).2 (b σ).2)).mp h; exact (by simp only [eB]; first | exact decide_eq_true h | exact decide_eq_false h | exact decide_eq_false (Int64.not_lt.mpr h) | exact decide_eq_false (Int64.not_le.mpr h) | exact decide_eq_true (Int64.not_lt.mp h) | exact decide_eq_true (Int64.not_le.mp h) | exact decide_eq_false (fun z => h z) | exact decide_eq_false (fun z => z h) | exact decide_eq_true (Classical.not_not.mp h))) H locs ls hP hS hL)
theorem CC.lcmp_lt_T {p1 p2 T F : Nat} {off : Int} {a b : PE Int64} (ha : CE Value.long G own cc nL d K rt w pc [p1] a) (hb : CE Value.long G own cc nL d K rt (w + 2) p1 [p2] b) (hc : decode cc p2 = .ok (.lcmp, 1)) (hd : decode cc (p2 + 1) = .ok (.ifCond .lt off, 3)) (ht : ((p2 + 1 : Nat) : Int) + off = (T : Int)) (hn : p2 + 1 + 3 = F) : CC G own cc nL d K rt w pc T F (eB (fun x y : Int64 => decide (x < y)) a b) := by
  intro p l e s m args below meth c P cl sl C σ rest hw hf kT kF
  refine ha p l e s m args below meth c P cl sl C σ rest hw hf.1 (fun q hq1 => ?_)
  cases List.mem_singleton.mp hq1
  refine hb p l e s m args below meth c P cl sl C σ _ (by simp [zcs, Value.category] at hw ⊢; omega) hf.2 (fun q hq1 => ?_)
  cases List.mem_singleton.mp hq1
  intro H locs ls hP hS hL
  refine W.lcmp C.1 C.2.1 hc ?_
  exact lv_if_lt C.1 C.2.1 hd ht (fun h => kT (by have h := (lg_cmp_lt (a σ).2 (b σ).2).mp h; exact (by simp only [eB]; first | exact decide_eq_true h | exact decide_eq_false h | exact decide_eq_false (Int64.not_lt.mpr h) | exact decide_eq_false (Int64.not_le.mpr h) | exact decide_eq_true (Int64.not_lt.mp h) | exact decide_eq_true (Int64.not_le.mp h) | exact decide_eq_false (fun z => h z) | exact decide_eq_false (fun z => z h) | exact decide_eq_true (Classical.not_not.mp h))) H locs ls hP hS hL) (fun h => by rw [hn]; exact kF (by have h := (not_congr (lg_cmp_lt (a σ).2 (b σ).2)).mp h; exact (by simp only [eB]; first | exact decide_eq_true h | exact decide_eq_false h | exact decide_eq_false (Int64.not_lt.mpr h) | exact decide_eq_false (Int64.not_le.mpr h) | exact decide_eq_true (Int64.not_lt.mp h) | exact decide_eq_true (Int64.not_le.mp h) | exact decide_eq_false (fun z => h z) | exact decide_eq_false (fun z => z h) | exact decide_eq_true (Classical.not_not.mp h))) H locs ls hP hS hL)
theorem CC.lcmp_lt_F {p1 p2 T F : Nat} {off : Int} {a b : PE Int64} (ha : CE Value.long G own cc nL d K rt w pc [p1] a) (hb : CE Value.long G own cc nL d K rt (w + 2) p1 [p2] b) (hc : decode cc p2 = .ok (.lcmp, 1)) (hd : decode cc (p2 + 1) = .ok (.ifCond .ge off, 3)) (ht : ((p2 + 1 : Nat) : Int) + off = (F : Int)) (hn : p2 + 1 + 3 = T) : CC G own cc nL d K rt w pc T F (eB (fun x y : Int64 => decide (x < y)) a b) := by
  intro p l e s m args below meth c P cl sl C σ rest hw hf kT kF
  refine ha p l e s m args below meth c P cl sl C σ rest hw hf.1 (fun q hq1 => ?_)
  cases List.mem_singleton.mp hq1
  refine hb p l e s m args below meth c P cl sl C σ _ (by simp [zcs, Value.category] at hw ⊢; omega) hf.2 (fun q hq1 => ?_)
  cases List.mem_singleton.mp hq1
  intro H locs ls hP hS hL
  refine W.lcmp C.1 C.2.1 hc ?_
  exact lv_if_ge C.1 C.2.1 hd ht (fun h => kF (by have h := (lg_cmp_ge (a σ).2 (b σ).2).mp h; exact (by simp only [eB]; first | exact decide_eq_true h | exact decide_eq_false h | exact decide_eq_false (Int64.not_lt.mpr h) | exact decide_eq_false (Int64.not_le.mpr h) | exact decide_eq_true (Int64.not_lt.mp h) | exact decide_eq_true (Int64.not_le.mp h) | exact decide_eq_false (fun z => h z) | exact decide_eq_false (fun z => z h) | exact decide_eq_true (Classical.not_not.mp h))) H locs ls hP hS hL) (fun h => by rw [hn]; exact kT (by have h := (not_congr (lg_cmp_ge (a σ).2 (b σ).2)).mp h; exact (by simp only [eB]; first | exact decide_eq_true h | exact decide_eq_false h | exact decide_eq_false (Int64.not_lt.mpr h) | exact decide_eq_false (Int64.not_le.mpr h) | exact decide_eq_true (Int64.not_lt.mp h) | exact decide_eq_true (Int64.not_le.mp h) | exact decide_eq_false (fun z => h z) | exact decide_eq_false (fun z => z h) | exact decide_eq_true (Classical.not_not.mp h))) H locs ls hP hS hL)
theorem CC.lcmp_ge_T {p1 p2 T F : Nat} {off : Int} {a b : PE Int64} (ha : CE Value.long G own cc nL d K rt w pc [p1] a) (hb : CE Value.long G own cc nL d K rt (w + 2) p1 [p2] b) (hc : decode cc p2 = .ok (.lcmp, 1)) (hd : decode cc (p2 + 1) = .ok (.ifCond .ge off, 3)) (ht : ((p2 + 1 : Nat) : Int) + off = (T : Int)) (hn : p2 + 1 + 3 = F) : CC G own cc nL d K rt w pc T F (eB (fun x y : Int64 => decide (y ≤ x)) a b) := by
  intro p l e s m args below meth c P cl sl C σ rest hw hf kT kF
  refine ha p l e s m args below meth c P cl sl C σ rest hw hf.1 (fun q hq1 => ?_)
  cases List.mem_singleton.mp hq1
  refine hb p l e s m args below meth c P cl sl C σ _ (by simp [zcs, Value.category] at hw ⊢; omega) hf.2 (fun q hq1 => ?_)
  cases List.mem_singleton.mp hq1
  intro H locs ls hP hS hL
  refine W.lcmp C.1 C.2.1 hc ?_
  exact lv_if_ge C.1 C.2.1 hd ht (fun h => kT (by have h := (lg_cmp_ge (a σ).2 (b σ).2).mp h; exact (by simp only [eB]; first | exact decide_eq_true h | exact decide_eq_false h | exact decide_eq_false (Int64.not_lt.mpr h) | exact decide_eq_false (Int64.not_le.mpr h) | exact decide_eq_true (Int64.not_lt.mp h) | exact decide_eq_true (Int64.not_le.mp h) | exact decide_eq_false (fun z => h z) | exact decide_eq_false (fun z => z h) | exact decide_eq_true (Classical.not_not.mp h))) H locs ls hP hS hL) (fun h => by rw [hn]; exact kF (by have h := (not_congr (lg_cmp_ge (a σ).2 (b σ).2)).mp h; exact (by simp only [eB]; first | exact decide_eq_true h | exact decide_eq_false h | exact decide_eq_false (Int64.not_lt.mpr h) | exact decide_eq_false (Int64.not_le.mpr h) | exact decide_eq_true (Int64.not_lt.mp h) | exact decide_eq_true (Int64.not_le.mp h) | exact decide_eq_false (fun z => h z) | exact decide_eq_false (fun z => z h) | exact decide_eq_true (Classical.not_not.mp h))) H locs ls hP hS hL)
theorem CC.lcmp_ge_F {p1 p2 T F : Nat} {off : Int} {a b : PE Int64} (ha : CE Value.long G own cc nL d K rt w pc [p1] a) (hb : CE Value.long G own cc nL d K rt (w + 2) p1 [p2] b) (hc : decode cc p2 = .ok (.lcmp, 1)) (hd : decode cc (p2 + 1) = .ok (.ifCond .lt off, 3)) (ht : ((p2 + 1 : Nat) : Int) + off = (F : Int)) (hn : p2 + 1 + 3 = T) : CC G own cc nL d K rt w pc T F (eB (fun x y : Int64 => decide (y ≤ x)) a b) := by
  intro p l e s m args below meth c P cl sl C σ rest hw hf kT kF
  refine ha p l e s m args below meth c P cl sl C σ rest hw hf.1 (fun q hq1 => ?_)
  cases List.mem_singleton.mp hq1
  refine hb p l e s m args below meth c P cl sl C σ _ (by simp [zcs, Value.category] at hw ⊢; omega) hf.2 (fun q hq1 => ?_)
  cases List.mem_singleton.mp hq1
  intro H locs ls hP hS hL
  refine W.lcmp C.1 C.2.1 hc ?_
  exact lv_if_lt C.1 C.2.1 hd ht (fun h => kF (by have h := (lg_cmp_lt (a σ).2 (b σ).2).mp h; exact (by simp only [eB]; first | exact decide_eq_true h | exact decide_eq_false h | exact decide_eq_false (Int64.not_lt.mpr h) | exact decide_eq_false (Int64.not_le.mpr h) | exact decide_eq_true (Int64.not_lt.mp h) | exact decide_eq_true (Int64.not_le.mp h) | exact decide_eq_false (fun z => h z) | exact decide_eq_false (fun z => z h) | exact decide_eq_true (Classical.not_not.mp h))) H locs ls hP hS hL) (fun h => by rw [hn]; exact kT (by have h := (not_congr (lg_cmp_lt (a σ).2 (b σ).2)).mp h; exact (by simp only [eB]; first | exact decide_eq_true h | exact decide_eq_false h | exact decide_eq_false (Int64.not_lt.mpr h) | exact decide_eq_false (Int64.not_le.mpr h) | exact decide_eq_true (Int64.not_lt.mp h) | exact decide_eq_true (Int64.not_le.mp h) | exact decide_eq_false (fun z => h z) | exact decide_eq_false (fun z => z h) | exact decide_eq_true (Classical.not_not.mp h))) H locs ls hP hS hL)
theorem CC.lcmp_gt_T {p1 p2 T F : Nat} {off : Int} {a b : PE Int64} (ha : CE Value.long G own cc nL d K rt w pc [p1] a) (hb : CE Value.long G own cc nL d K rt (w + 2) p1 [p2] b) (hc : decode cc p2 = .ok (.lcmp, 1)) (hd : decode cc (p2 + 1) = .ok (.ifCond .gt off, 3)) (ht : ((p2 + 1 : Nat) : Int) + off = (T : Int)) (hn : p2 + 1 + 3 = F) : CC G own cc nL d K rt w pc T F (eB (fun x y : Int64 => decide (y < x)) a b) := by
  intro p l e s m args below meth c P cl sl C σ rest hw hf kT kF
  refine ha p l e s m args below meth c P cl sl C σ rest hw hf.1 (fun q hq1 => ?_)
  cases List.mem_singleton.mp hq1
  refine hb p l e s m args below meth c P cl sl C σ _ (by simp [zcs, Value.category] at hw ⊢; omega) hf.2 (fun q hq1 => ?_)
  cases List.mem_singleton.mp hq1
  intro H locs ls hP hS hL
  refine W.lcmp C.1 C.2.1 hc ?_
  exact lv_if_gt C.1 C.2.1 hd ht (fun h => kT (by have h := (lg_cmp_gt (a σ).2 (b σ).2).mp h; exact (by simp only [eB]; first | exact decide_eq_true h | exact decide_eq_false h | exact decide_eq_false (Int64.not_lt.mpr h) | exact decide_eq_false (Int64.not_le.mpr h) | exact decide_eq_true (Int64.not_lt.mp h) | exact decide_eq_true (Int64.not_le.mp h) | exact decide_eq_false (fun z => h z) | exact decide_eq_false (fun z => z h) | exact decide_eq_true (Classical.not_not.mp h))) H locs ls hP hS hL) (fun h => by rw [hn]; exact kF (by have h := (not_congr (lg_cmp_gt (a σ).2 (b σ).2)).mp h; exact (by simp only [eB]; first | exact decide_eq_true h | exact decide_eq_false h | exact decide_eq_false (Int64.not_lt.mpr h) | exact decide_eq_false (Int64.not_le.mpr h) | exact decide_eq_true (Int64.not_lt.mp h) | exact decide_eq_true (Int64.not_le.mp h) | exact decide_eq_false (fun z => h z) | exact decide_eq_false (fun z => z h) | exact decide_eq_true (Classical.not_not.mp h))) H locs ls hP hS hL)
theorem CC.lcmp_gt_F {p1 p2 T F : Nat} {off : Int} {a b : PE Int64} (ha : CE Value.long G own cc nL d K rt w pc [p1] a) (hb : CE Value.long G own cc nL d K rt (w + 2) p1 [p2] b) (hc : decode cc p2 = .ok (.lcmp, 1)) (hd : decode cc (p2 + 1) = .ok (.ifCond .le off, 3)) (ht : ((p2 + 1 : Nat) : Int) + off = (F : Int)) (hn : p2 + 1 + 3 = T) : CC G own cc nL d K rt w pc T F (eB (fun x y : Int64 => decide (y < x)) a b) := by
  intro p l e s m args below meth c P cl sl C σ rest hw hf kT kF
  refine ha p l e s m args below meth c P cl sl C σ rest hw hf.1 (fun q hq1 => ?_)
  cases List.mem_singleton.mp hq1
  refine hb p l e s m args below meth c P cl sl C σ _ (by simp [zcs, Value.category] at hw ⊢; omega) hf.2 (fun q hq1 => ?_)
  cases List.mem_singleton.mp hq1
  intro H locs ls hP hS hL
  refine W.lcmp C.1 C.2.1 hc ?_
  exact lv_if_le C.1 C.2.1 hd ht (fun h => kF (by have h := (lg_cmp_le (a σ).2 (b σ).2).mp h; exact (by simp only [eB]; first | exact decide_eq_true h | exact decide_eq_false h | exact decide_eq_false (Int64.not_lt.mpr h) | exact decide_eq_false (Int64.not_le.mpr h) | exact decide_eq_true (Int64.not_lt.mp h) | exact decide_eq_true (Int64.not_le.mp h) | exact decide_eq_false (fun z => h z) | exact decide_eq_false (fun z => z h) | exact decide_eq_true (Classical.not_not.mp h))) H locs ls hP hS hL) (fun h => by rw [hn]; exact kT (by have h := (not_congr (lg_cmp_le (a σ).2 (b σ).2)).mp h; exact (by simp only [eB]; first | exact decide_eq_true h | exact decide_eq_false h | exact decide_eq_false (Int64.not_lt.mpr h) | exact decide_eq_false (Int64.not_le.mpr h) | exact decide_eq_true (Int64.not_lt.mp h) | exact decide_eq_true (Int64.not_le.mp h) | exact decide_eq_false (fun z => h z) | exact decide_eq_false (fun z => z h) | exact decide_eq_true (Classical.not_not.mp h))) H locs ls hP hS hL)
theorem CC.lcmp_le_T {p1 p2 T F : Nat} {off : Int} {a b : PE Int64} (ha : CE Value.long G own cc nL d K rt w pc [p1] a) (hb : CE Value.long G own cc nL d K rt (w + 2) p1 [p2] b) (hc : decode cc p2 = .ok (.lcmp, 1)) (hd : decode cc (p2 + 1) = .ok (.ifCond .le off, 3)) (ht : ((p2 + 1 : Nat) : Int) + off = (T : Int)) (hn : p2 + 1 + 3 = F) : CC G own cc nL d K rt w pc T F (eB (fun x y : Int64 => decide (x ≤ y)) a b) := by
  intro p l e s m args below meth c P cl sl C σ rest hw hf kT kF
  refine ha p l e s m args below meth c P cl sl C σ rest hw hf.1 (fun q hq1 => ?_)
  cases List.mem_singleton.mp hq1
  refine hb p l e s m args below meth c P cl sl C σ _ (by simp [zcs, Value.category] at hw ⊢; omega) hf.2 (fun q hq1 => ?_)
  cases List.mem_singleton.mp hq1
  intro H locs ls hP hS hL
  refine W.lcmp C.1 C.2.1 hc ?_
  exact lv_if_le C.1 C.2.1 hd ht (fun h => kT (by have h := (lg_cmp_le (a σ).2 (b σ).2).mp h; exact (by simp only [eB]; first | exact decide_eq_true h | exact decide_eq_false h | exact decide_eq_false (Int64.not_lt.mpr h) | exact decide_eq_false (Int64.not_le.mpr h) | exact decide_eq_true (Int64.not_lt.mp h) | exact decide_eq_true (Int64.not_le.mp h) | exact decide_eq_false (fun z => h z) | exact decide_eq_false (fun z => z h) | exact decide_eq_true (Classical.not_not.mp h))) H locs ls hP hS hL) (fun h => by rw [hn]; exact kF (by have h := (not_congr (lg_cmp_le (a σ).2 (b σ).2)).mp h; exact (by simp only [eB]; first | exact decide_eq_true h | exact decide_eq_false h | exact decide_eq_false (Int64.not_lt.mpr h) | exact decide_eq_false (Int64.not_le.mpr h) | exact decide_eq_true (Int64.not_lt.mp h) | exact decide_eq_true (Int64.not_le.mp h) | exact decide_eq_false (fun z => h z) | exact decide_eq_false (fun z => z h) | exact decide_eq_true (Classical.not_not.mp h))) H locs ls hP hS hL)
theorem CC.lcmp_le_F {p1 p2 T F : Nat} {off : Int} {a b : PE Int64} (ha : CE Value.long G own cc nL d K rt w pc [p1] a) (hb : CE Value.long G own cc nL d K rt (w + 2) p1 [p2] b) (hc : decode cc p2 = .ok (.lcmp, 1)) (hd : decode cc (p2 + 1) = .ok (.ifCond .gt off, 3)) (ht : ((p2 + 1 : Nat) : Int) + off = (F : Int)) (hn : p2 + 1 + 3 = T) : CC G own cc nL d K rt w pc T F (eB (fun x y : Int64 => decide (x ≤ y)) a b) := by
  intro p l e s m args below meth c P cl sl C σ rest hw hf kT kF
  refine ha p l e s m args below meth c P cl sl C σ rest hw hf.1 (fun q hq1 => ?_)
  cases List.mem_singleton.mp hq1
  refine hb p l e s m args below meth c P cl sl C σ _ (by simp [zcs, Value.category] at hw ⊢; omega) hf.2 (fun q hq1 => ?_)
  cases List.mem_singleton.mp hq1
  intro H locs ls hP hS hL
  refine W.lcmp C.1 C.2.1 hc ?_
  exact lv_if_gt C.1 C.2.1 hd ht (fun h => kF (by have h := (lg_cmp_gt (a σ).2 (b σ).2).mp h; exact (by simp only [eB]; first | exact decide_eq_true h | exact decide_eq_false h | exact decide_eq_false (Int64.not_lt.mpr h) | exact decide_eq_false (Int64.not_le.mpr h) | exact decide_eq_true (Int64.not_lt.mp h) | exact decide_eq_true (Int64.not_le.mp h) | exact decide_eq_false (fun z => h z) | exact decide_eq_false (fun z => z h) | exact decide_eq_true (Classical.not_not.mp h))) H locs ls hP hS hL) (fun h => by rw [hn]; exact kT (by have h := (not_congr (lg_cmp_gt (a σ).2 (b σ).2)).mp h; exact (by simp only [eB]; first | exact decide_eq_true h | exact decide_eq_false h | exact decide_eq_false (Int64.not_lt.mpr h) | exact decide_eq_false (Int64.not_le.mpr h) | exact decide_eq_true (Int64.not_lt.mp h) | exact decide_eq_true (Int64.not_le.mp h) | exact decide_eq_false (fun z => h z) | exact decide_eq_false (fun z => z h) | exact decide_eq_true (Classical.not_not.mp h))) H locs ls hP hS hL)
end ZE
