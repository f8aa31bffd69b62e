/-! THE WALK: what may change something, and statements -/
abbrev XE (α : Type) : Type := ZS → (α → ZS → Prop) → Prop
def CX {α : Type} (tg : α → Value) (G : ZG) (own : String) (cc : ByteArray) (nL d : Nat) (K : ZKt) (rt : Option FieldType) (w pc : Nat) (E : List Nat) (f : XE α) : Prop :=
  ∀ (p : Program) (l : Launch) (e : Env) (s : State) (m : MethodId) (args : Array Value) (below : List Frame) (meth : Method) (c : Code) (P : Option Value → ZM → Prop) (cl sl : Nat), zCtx G own cc nL d K rt p l s m args meth c →
    ∀ (σ : ZS) (rest : List Value) (Q : α → ZS → Prop), zcs rest ≤ w → f σ Q → (∀ x σ', Q x σ' → ∀ q ∈ E, zW G nL d p l e s m args below meth c P cl sl q σ' (tg x :: rest)) → zW G nL d p l e s m args below meth c P cl sl pc σ rest
def CD (G : ZG) (own : String) (cc : ByteArray) (nL d : Nat) (K : ZKt) (rt : Option FieldType) (w pc T F : Nat) (f : XE Bool) : Prop :=
  ∀ (p : Program) (l : Launch) (e : Env) (s : State) (m : MethodId) (args : Array Value) (below : List Frame) (meth : Method) (c : Code) (P : Option Value → ZM → Prop) (cl sl : Nat), zCtx G own cc nL d K rt p l s m args meth c →
    ∀ (σ : ZS) (rest : List Value) (Q : Bool → ZS → Prop), zcs rest ≤ w → f σ Q → (∀ σ', Q true σ' → zW G nL d p l e s m args below meth c P cl sl T σ' rest) → (∀ σ', Q false σ' → zW G nL d p l e s m args below meth c P cl sl F σ' rest) → zW G nL d p l e s m args below meth c P cl sl pc σ rest
abbrev ZSt : Type := ZS → (ZS → Prop) → (Option Value → ZM → Prop) → (Nat → ZS → Prop) → Prop
/-- a statement from pc: it goes on at a place of E, or of lb k (a jump to label k), or returns -/
def CS (G : ZG) (own : String) (cc : ByteArray) (nL d : Nat) (K : ZKt) (rt : Option FieldType) (E : List Nat) (lb : Nat → List Nat) (pc : Nat) (f : ZSt) : Prop :=
  ∀ (p : Program) (l : Launch) (e : Env) (s : State) (m : MethodId) (args : Array Value) (below : List Frame) (meth : Method) (c : Code) (P : Option Value → ZM → Prop) (cl sl : Nat), zCtx G own cc nL d K rt p l s m args meth c →
    ∀ (σ : ZS) (N : ZS → Prop) (B : Nat → ZS → Prop), f σ N P B → (∀ σ', N σ' → ∀ q ∈ E, zW G nL d p l e s m args below meth c P cl sl q σ' []) → (∀ k σ', B k σ' → ∀ q ∈ lb k, zW G nL d p l e s m args below meth c P cl sl q σ' []) → zW G nL d p l e s m args below meth c P cl sl pc σ []
-- what may change something
def xP {α : Type} (f : PE α) : XE α := fun σ Q => (f σ).1 ∧ Q (f σ).2 σ
def xCS {α : Type} (tg : α → Value) (K : ZKt) (k : Nat) (as : PE (List Value)) : XE α := fun σ Q => (as σ).1 ∧ K k (as σ).2 σ.2 (fun v μ => ∃ x, v = some (tg x) ∧ Q x (σ.1, μ))
def xCV {α : Type} (tg : α → Value) (Z : List ZD) (ci : Nat) (K : ZKt) (k : Nat) (as : PE (List Value)) : XE α := fun σ Q => (as σ).1 ∧ zob Z ci (as σ).2 ∧ K k (as σ).2 σ.2 (fun v μ => ∃ x, v = some (tg x) ∧ Q x (σ.1, μ))
def xNz (f : XE Int32) : XE Bool := fun σ Q => f σ (fun x σ' => Q (decide (¬ x = 0)) σ')
def xI (f : XE Bool) : XE Int32 := fun σ Q => f σ (fun t σ' => Q (zi t) σ')
def xAnd (a b : XE Bool) : XE Bool := fun σ Q => a σ (fun t σ' => (t = true → b σ' Q) ∧ (t = false → Q false σ'))
def xOr (a b : XE Bool) : XE Bool := fun σ Q => a σ (fun t σ' => (t = true → Q true σ') ∧ (t = false → b σ' Q))
def xNot (a : XE Bool) : XE Bool := fun σ Q => a σ (fun t σ' => Q (!t) σ')
def xT {α : Type} (c : XE Bool) (a b : XE α) : XE α := fun σ Q => c σ (fun t σ' => (t = true → a σ' Q) ∧ (t = false → b σ' Q))
/-- a binary operation whose second half may change something -/
def xB {α β γ : Type} (f : α → β → γ) (a : PE α) (b : XE β) : XE γ := fun σ Q => (a σ).1 ∧ b σ (fun y σ' => Q (f (a σ).2 y) σ')
/-- field++ as a value -/
def xInc (Z : List ZD) (ci k : Nat) (a : PE Nat) : XE Int32 := fun σ Q => (a σ).1 ∧ zif Z ci (a σ).2 k ∧ Q (σ.2.1 (a σ).2 k) (σ.1, zset σ.2 (a σ).2 k (σ.2.1 (a σ).2 k + 1))
/-- ++field as a value -/
def xPre (Z : List ZD) (ci k : Nat) (a : PE Nat) : XE Int32 := fun σ Q => (a σ).1 ∧ zif Z ci (a σ).2 k ∧ Q (σ.2.1 (a σ).2 k + 1) (σ.1, zset σ.2 (a σ).2 k (σ.2.1 (a σ).2 k + 1))
-- statements
def sSkip : ZSt := fun σ N _ _ => N σ
def sSeq (a b : ZSt) : ZSt := fun σ N P B => a σ (fun σ' => b σ' N P B) P B
def sIf (c : XE Bool) (a b : ZSt) : ZSt := fun σ N P B => c σ (fun t σ' => (t = true → a σ' N P B) ∧ (t = false → b σ' N P B))
/-- a loop without labels -/
def sWhl (c : XE Bool) (a : ZSt) : ZSt := fun σ N P B => ∃ (I : Nat → ZS → Prop) (n : Nat), I n σ ∧ ∀ n σ, I n σ → c σ (fun t σ' => (t = true → a σ' (fun σ2 => ∃ n', n' < n ∧ I n' σ2) P B) ∧ (t = false → N σ'))
/-- a loop with 'break' (label kb) and 'continue' (label kc): the step u behind the body a -/
def sFor (kb kc : Nat) (c : XE Bool) (u a : ZSt) : ZSt := fun σ N P B => ∃ (I : Nat → ZS → Prop) (n : Nat), I n σ ∧ ∀ n σ, I n σ → c σ (fun t σ' => (t = true → a σ' (fun σ2 => u σ2 (fun σ3 => ∃ n', n' < n ∧ I n' σ3) P B) P (fun k σ2 => if k = kc then u σ2 (fun σ3 => ∃ n', n' < n ∧ I n' σ3) P B else if k = kb then N σ2 else B k σ2)) ∧ (t = false → N σ'))
def sBrk (k : Nat) : ZSt := fun σ _ _ B => B k σ
/-- behind a block: what it declared is forgotten -/
def sScope (n : Nat) (a : ZSt) : ZSt := fun σ N P B => a σ (fun σ' => (∀ v, σ'.1[n - 1]? = some v → v.category = 1) ∧ N (σ'.1.take n, σ'.2)) P B
def sDecI (i : Nat) (f : XE Int32) : ZSt := fun σ N _ _ => f σ (fun x σ' => σ'.1.length = i ∧ N (σ'.1 ++ [.int x], σ'.2))
def sDecL (i : Nat) (f : XE Int64) : ZSt := fun σ N _ _ => f σ (fun x σ' => σ'.1.length = i ∧ N (σ'.1 ++ [.long x, .null], σ'.2))
def sDecR (i : Nat) (f : XE Nat) : ZSt := fun σ N _ _ => f σ (fun x σ' => σ'.1.length = i ∧ N (σ'.1 ++ [.ref x], σ'.2))
def sSetI (i : Nat) (f : XE Int32) : ZSt := fun σ N _ _ => f σ (fun x σ' => (zli σ'.1 i).isSome = true ∧ N (σ'.1.set i (.int x), σ'.2))
def sSetL (i : Nat) (f : XE Int64) : ZSt := fun σ N _ _ => f σ (fun x σ' => (zlj σ'.1 i).isSome = true ∧ N (σ'.1.set i (.long x), σ'.2))
def sInc (i : Nat) (n : Int32) : ZSt := fun σ N _ _ => (zli σ.1 i).isSome = true ∧ N (σ.1.set i (.int ((zli σ.1 i).getD 0 + n)), σ.2)
def sRetI (f : XE Int32) : ZSt := fun σ _ P _ => f σ (fun x σ' => P (some (.int x)) σ'.2)
def sRetZ (f : XE Int32) : ZSt := fun σ _ P _ => f σ (fun x σ' => (x = 0 ∨ x = 1) ∧ P (some (.int x)) σ'.2)
def sRetL (f : XE Int64) : ZSt := fun σ _ P _ => f σ (fun x σ' => P (some (.long x)) σ'.2)
def sRetR (f : XE Nat) : ZSt := fun σ _ P _ => f σ (fun x σ' => P (some (.ref x)) σ'.2)
def sRetV : ZSt := fun σ _ P _ => P none σ.2
def sCS (K : ZKt) (k : Nat) (as : PE (List Value)) : ZSt := fun σ N _ _ => (as σ).1 ∧ K k (as σ).2 σ.2 (fun v μ => v = none ∧ N (σ.1, μ))
def sCV (Z : List ZD) (ci : Nat) (K : ZKt) (k : Nat) (as : PE (List Value)) : ZSt := fun σ N _ _ => (as σ).1 ∧ zob Z ci (as σ).2 ∧ K k (as σ).2 σ.2 (fun v μ => v = none ∧ N (σ.1, μ))
/-- a field of type int, or of boolean (then what is put is 0 or 1) -/
def zfk (z : Bool) (x : Int32) : Prop := z = true → x = 0 ∨ x = 1
def sPut (Z : List ZD) (z : Bool) (ci k : Nat) (a : PE Nat) (f : XE Int32) : ZSt := fun σ N _ _ => (a σ).1 ∧ f σ (fun x σ' => zif Z ci (a σ).2 k ∧ zfk z x ∧ N (σ'.1, zset σ'.2 (a σ).2 k x))
def sPutL (Z : List ZD) (ci k : Nat) (a : PE Nat) (f : XE Int64) : ZSt := fun σ N _ _ => (a σ).1 ∧ f σ (fun x σ' => zjf Z ci (a σ).2 k ∧ N (σ'.1, zsetL σ'.2 (a σ).2 k x))
/-- field op= f -/
def sUpd (Z : List ZD) (ci k : Nat) (a : PE Nat) (g : Int32 → Int32 → Int32) (f : PE Int32) : ZSt := fun σ N _ _ => (a σ).1 ∧ (f σ).1 ∧ zif Z ci (a σ).2 k ∧ N (σ.1, zset σ.2 (a σ).2 k (g (σ.2.1 (a σ).2 k) (f σ).2))
/-- what an array of kind t keeps of an int -/
def znr (t : Nat) (x : Int32) : Int32 := if t = 2 then vp_nar .byte x else if t = 3 then vp_nar .boolean x else x
def sSt (Z : List ZD) (t : Nat) (a : PE Nat) (i : XE Int32) (f : XE Int32) : ZSt := fun σ N _ _ => (a σ).1 ∧ i σ (fun j σ1 => f σ1 (fun x σ' => zin Z t (a σ).2 j ∧ N (σ'.1, zset σ'.2 (a σ).2 j.toNatClampNeg (znr t x))))
def sStL (Z : List ZD) (a : PE Nat) (i : PE Int32) (f : PE Int64) : ZSt := fun σ N _ _ => (a σ).1 ∧ (i σ).1 ∧ (f σ).1 ∧ zin Z 1 (a σ).2 (i σ).2 ∧ N (σ.1, zsetL σ.2 (a σ).2 (i σ).2.toNatClampNeg (f σ).2)
/-- a[i] op= f -/
def sStU (Z : List ZD) (a : PE Nat) (i : PE Int32) (g : Int32 → Int32 → Int32) (f : PE Int32) : ZSt := fun σ N _ _ => (a σ).1 ∧ (i σ).1 ∧ (f σ).1 ∧ zin Z 0 (a σ).2 (i σ).2 ∧ N (σ.1, zset σ.2 (a σ).2 (i σ).2.toNatClampNeg (g (σ.2.1 (a σ).2 (i σ).2.toNatClampNeg) (f σ).2))
def sStUL (Z : List ZD) (a : PE Nat) (i : PE Int32) (g : Int64 → Int64 → Int64) (f : PE Int64) : ZSt := fun σ N _ _ => (a σ).1 ∧ (i σ).1 ∧ (f σ).1 ∧ zin Z 1 (a σ).2 (i σ).2 ∧ N (σ.1, zsetL σ.2 (a σ).2 (i σ).2.toNatClampNeg (g (σ.2.2 (a σ).2 (i σ).2.toNatClampNeg) (f σ).2))
/-- System.arraycopy(a, 0, b, 0, n) -/
def zcpy (μ : ZM) (a b n : Nat) : ZM := (fun c => if c = b then va_cpy (μ.1 a) (μ.1 b) 0 0 n else μ.1 c, μ.2)
def zcpyL (μ : ZM) (a b n : Nat) : ZM := (μ.1, fun c => if c = b then va_cpy (μ.2 a) (μ.2 b) 0 0 n else μ.2 c)
def zlen (Z : List ZD) (t a : Nat) (n : Int32) : Prop := ¬ n < 0 ∧ match zoa Z a with
  | some (t', m, _) => t' = t ∧ n.toNatClampNeg ≤ m
  | none => False
def sCpy (Z : List ZD) (a b : PE Nat) (n : PE Int32) : ZSt := fun σ N _ _ => (a σ).1 ∧ (b σ).1 ∧ (n σ).1 ∧ zlen Z 0 (a σ).2 (n σ).2 ∧ zlen Z 0 (b σ).2 (n σ).2 ∧ N (σ.1, zcpy σ.2 (a σ).2 (b σ).2 (n σ).2.toNatClampNeg)
def sCpyL (Z : List ZD) (a b : PE Nat) (n : PE Int32) : ZSt := fun σ N _ _ => (a σ).1 ∧ (b σ).1 ∧ (n σ).1 ∧ zlen Z 1 (a σ).2 (n σ).2 ∧ zlen Z 1 (b σ).2 (n σ).2 ∧ N (σ.1, zcpyL σ.2 (a σ).2 (b σ).2 (n σ).2.toNatClampNeg)
/-- a switch: each arm ends by itself or goes on behind -/
def zsw : List (Int32 × ZSt) → ZSt → Int32 → ZSt
  | [], D, _ => D
  | (c, S) :: r, D, x => fun σ N P B => (x = c → S σ N P B) ∧ (¬ x = c → zsw r D x σ N P B)
def sSw (f : XE Int32) (arms : List (Int32 × ZSt)) (D : ZSt) : ZSt := fun σ N P B => f σ (fun x σ' => zsw arms D x σ' N P B)
section ZS1
variable {G : ZG} {own : String} {cc : ByteArray} {nL d : Nat} {K : ZKt} {F : ZFt} {rt : Option FieldType} {w pc : Nat} {E : List Nat} {lb : Nat → List Nat}
theorem CE.callS {α : Type} {tg : α → Value} {rd : Value → α} {q1 idx k n : Nat} {as : PE (List Value)} {I : ZI} (hw8 : w ≤ 8) (ha : CA G own cc nL d K rt w pc q1 as) (hI : zinfo k = I) (hs : zCS own idx I n) (hn : ∀ σ, (as σ).2.length = n) (hd : decode cc q1 = .ok (.invokestatic idx, 3)) (hq : q1 + 3 ∈ E) : CE tg G own cc nL d K rt w pc E (eCS tg rd K F k as) := by
  intro p l e s m args below meth c P cl sl C σ rest hw hf kk
  refine ha p l e s m args below meth c P cl sl C σ rest hw hf.1 ?_
  intro H locs ls hP hS hL
  refine z_callS C hI hs hf.2 (hn σ) (Nat.le_trans hw hw8) hP hS hL hd (fun v μ' H1 locs1 hv hP1 hS1 => ?_)
  obtain ⟨rfl, rfl⟩ := hv
  exact kk _ hq H1 locs1 ls hP1 hS1 hL
theorem zob_some {Z : List ZD} {ci : Nat} {as : List Value} (h : zob Z ci as) : ∃ a r, as = .ref a :: r ∧ zoc Z a = some ci := by
  unfold zob at h
  split at h
  · exact ⟨_, _, rfl, h⟩
  · exact h.elim
theorem CE.callV {α : Type} {tg : α → Value} {rd : Value → α} {q1 idx ci k n : Nat} {as : PE (List Value)} {I : ZI} (hw8 : w ≤ 8) (ha : CA G own cc nL d K rt w pc q1 as) (hI : zinfo k = I) (hs : zCV own idx ci I n) (hn : ∀ σ, (as σ).2.length = n + 1) (hd : decode cc q1 = .ok (.invokevirtual idx, 3)) (hq : q1 + 3 ∈ E) : CE tg G own cc nL d K rt w pc E (eCV tg rd G.2.2.2 ci K F k as) := by
  intro p l e s m args below meth c P cl sl C σ rest hw hf kk
  refine ha p l e s m args below meth c P cl sl C σ rest hw hf.1 ?_
  intro H locs ls hP hS hL
  obtain ⟨a, r, h1, h2⟩ := zob_some hf.2.1
  have h3 := hf.2.2
  have h4 := hn σ
  have kk2 := kk _ hq
  simp only [eCV, h1] at h3 h4 kk2 ⊢
  refine z_callV C hI hs h3 h2 (by simpa using h4) (Nat.le_trans hw hw8) hP hS hL hd (fun v μ' H1 locs1 hv hP1 hS1 => ?_)
  obtain ⟨rfl, rfl⟩ := hv
  exact kk2 H1 locs1 ls hP1 hS1 hL
theorem CX.callS {α : Type} {tg : α → Value} {q1 idx k n : Nat} {as : PE (List Value)} {I : ZI} (hw8 : w ≤ 8) (ha : CA G own cc nL d K rt w pc q1 as) (hI : zinfo k = I) (hs : zCS own idx I n) (hn : ∀ σ, (as σ).2.length = n) (hd : decode cc q1 = .ok (.invokestatic idx, 3)) (hq : q1 + 3 ∈ E) : CX tg G own cc nL d K rt w pc E (xCS tg K k as) := by
  intro p l e s m args below meth c P cl sl C σ rest Q hw hf kk
  refine ha p l e s m args below meth c P cl sl C σ rest hw hf.1 ?_
  intro H locs ls hP hS hL
  refine z_callS C hI hs hf.2 (hn σ) (Nat.le_trans hw hw8) hP hS hL hd (fun v μ' H1 locs1 hv hP1 hS1 => ?_)
  obtain ⟨x, rfl, hv⟩ := hv
  exact kk x _ hv _ hq H1 locs1 ls hP1 hS1 hL
theorem CX.callV {α : Type} {tg : α → Value} {q1 idx ci k n : Nat} {as : PE (List Value)} {I : ZI} (hw8 : w ≤ 8) (ha : CA G own cc nL d K rt w pc q1 as) (hI : zinfo k = I) (hs : zCV own idx ci I n) (hn : ∀ σ, (as σ).2.length = n + 1) (hd : decode cc q1 = .ok (.invokevirtual idx, 3)) (hq : q1 + 3 ∈ E) : CX tg G own cc nL d K rt w pc E (xCV tg G.2.2.2 ci K k as) := by
  intro p l e s m args below meth c P cl sl C σ rest Q hw hf kk
  refine ha p l e s m args below meth c P cl sl C σ rest hw hf.1 ?_
  intro H locs ls hP hS hL
  obtain ⟨a, r, h1, h2⟩ := zob_some hf.2.1
  have h3 := hf.2.2
  have h4 := hn σ
  rw [h1] at h3 h4
  simp only [h1]
  refine z_callV C hI hs h3 h2 (by simpa using h4) (Nat.le_trans hw hw8) hP hS hL hd (fun v μ' H1 locs1 hv hP1 hS1 => ?_)
  obtain ⟨x, rfl, hv⟩ := hv
  exact kk x _ hv _ hq H1 locs1 ls hP1 hS1 hL
theorem CX.pure {α : Type} {tg : α → Value} {f : PE α} (h : CE tg G own cc nL d K rt w pc E f) : CX tg G own cc nL d K rt w pc E (xP f) := by
  intro p l e s m args below meth c P cl sl C σ rest Q hw hf kk
  exact h p l e s m args below meth c P cl sl C σ rest hw hf.1 (fun q hq => kk _ _ hf.2 q hq)
theorem CD.pure {T F : Nat} {f : PE Bool} (h : CC G own cc nL d K rt w pc T F f) : CD G own cc nL d K rt w pc T F (xP f) := by
  intro p l e s m args below meth c P cl sl C σ rest Q hw hf kT kF
  refine h p l e s m args below meth c P cl sl C σ rest hw hf.1 (fun h1 => kT σ ?_) (fun h1 => kF σ ?_)
  · have := hf.2; rw [h1] at this; exact this
  · have := hf.2; rw [h1] at this; exact this
theorem CD.nz_F {p1 T F : Nat} {off : Int} {f : XE Int32} (h : CX Value.int G own cc nL d K rt w pc [p1] f) (hd : decode cc p1 = .ok (.ifCond .eq off, 3)) (ht : (p1 : Int) + off = (F : Int)) (hn : p1 + 3 = T) : CD G own cc nL d K rt w pc T F (xNz f) := by
  intro p l e s m args below meth c P cl sl C σ rest Q hw hf kT kF
  refine h p l e s m args below meth c P cl sl C σ rest _ hw hf (fun x σ' hx q hq => ?_)
  cases List.mem_singleton.mp hq
  intro H locs ls hP hS hL
  exact lv_if_eq C.1 C.2.1 hd ht (fun h => kF σ' (by simpa [h] using hx) H locs ls hP hS hL) (fun h => by rw [hn]; exact kT σ' (by simpa [h] using hx) H locs ls hP hS hL)
theorem CD.nz_T {p1 T F : Nat} {off : Int} {f : XE Int32} (h : CX Value.int G own cc nL d K rt w pc [p1] f) (hd : decode cc p1 = .ok (.ifCond .ne off, 3)) (ht : (p1 : Int) + off = (T : Int)) (hn : p1 + 3 = F) : CD G own cc nL d K rt w pc T F (xNz f) := by
  intro p l e s m args below meth c P cl sl C σ rest Q hw hf kT kF
  refine h p l e s m args below meth c P cl sl C σ rest _ hw hf (fun x σ' hx q hq => ?_)
  cases List.mem_singleton.mp hq
  intro H locs ls hP hS hL
  exact lv_if_ne C.1 C.2.1 hd ht (fun h => kT σ' (by simpa [h] using hx) H locs ls hP hS hL) (fun h => by rw [hn]; exact kF σ' (by simpa [h] using hx) H locs ls hP hS hL)
theorem CD.and {p1 T F : Nat} {a b : XE Bool} (ha : CD G own cc nL d K rt w pc p1 F a) (hb : CD G own cc nL d K rt w p1 T F b) : CD G own cc nL d K rt w pc T F (xAnd a b) := by
  intro p l e s m args below meth c P cl sl C σ rest Q hw hf kT kF
  exact ha p l e s m args below meth c P cl sl C σ rest _ hw hf (fun σ' h => hb p l e s m args below meth c P cl sl C σ' rest Q hw (h.1 rfl) kT kF) (fun σ' h => kF σ' (h.2 rfl))
theorem CD.or {p1 T F : Nat} {a b : XE Bool} (ha : CD G own cc nL d K rt w pc T p1 a) (hb : CD G own cc nL d K rt w p1 T F b) : CD G own cc nL d K rt w pc T F (xOr a b) := by
  intro p l e s m args below meth c P cl sl C σ rest Q hw hf kT kF
  exact ha p l e s m args below meth c P cl sl C σ rest _ hw hf (fun σ' h => kT σ' (h.1 rfl)) (fun σ' h => hb p l e s m args below meth c P cl sl C σ' rest Q hw (h.2 rfl) kT kF)
theorem CD.not {T F : Nat} {a : XE Bool} (ha : CD G own cc nL d K rt w pc F T a) : CD G own cc nL d K rt w pc T F (xNot a) := by
  intro p l e s m args below meth c P cl sl C σ rest Q hw hf kT kF
  exact ha p l e s m args below meth c P cl sl C σ rest _ hw hf (fun σ' h => kF σ' h) (fun σ' h => kT σ' h)
theorem CX.bool {T F p1 q : Nat} {off : Int} {c : XE Bool} (hc : CD G own cc nL d K rt w pc T F c) (hT : decode cc T = .ok (.iconst 1, 1)) (hp : T + 1 = p1) (hd : decode cc p1 = .ok (.goto off, 3)) (ht : (p1 : Int) + off = (q : Int)) (hq : q ∈ E) (hF : decode cc F = .ok (.iconst 0, 1)) (hq2 : F + 1 ∈ E) : CX Value.int G own cc nL d K rt w pc E (xI c) := by
  intro p l e s m args below meth c' P cl sl C σ rest Q hw hf kk
  refine hc p l e s m args below meth c' P cl sl C σ rest _ hw hf (fun σ' h => ?_) (fun σ' h => ?_)
  · intro H locs ls hP hS hL
    refine lv_iconst C.1 C.2.1 hT (v := 1) (by decide) ?_
    rw [hp]
    exact z_goto C hd ht (kk _ _ h q hq) H locs ls hP hS hL
  · intro H locs ls hP hS hL
    exact lv_iconst C.1 C.2.1 hF (v := 0) (by decide) (kk _ _ h _ hq2 H locs ls hP hS hL)
theorem CX.tern {α : Type} {tg : α → Value} {T F p1 q : Nat} {off : Int} {c : XE Bool} {a b : XE α} {E1 : List Nat} (hc : CD G own cc nL d K rt w pc T F c) (ha : CX tg G own cc nL d K rt w T E1 a) (h1 : ∀ x ∈ E1, x = p1 ∨ x = q) (hd : decode cc p1 = .ok (.goto off, 3)) (ht : (p1 : Int) + off = (q : Int)) (hq : q ∈ E) (hb : CX tg G own cc nL d K rt w F E b) : CX tg G own cc nL d K rt w pc E (xT c a b) := by
  intro p l e s m args below meth c' P cl sl C σ rest Q hw hf kk
  refine hc p l e s m args below meth c' P cl sl C σ rest _ hw hf (fun σ' h => ?_) (fun σ' h => ?_)
  · refine ha p l e s m args below meth c' P cl sl C σ' rest Q hw (h.1 rfl) (fun y σ2 hy x hx => ?_)
    rcases h1 x hx with rfl | rfl
    · exact z_goto C hd ht (kk y σ2 hy q hq)
    · exact kk y σ2 hy _ hq
  · exact hb p l e s m args below meth c' P cl sl C σ' rest Q hw (h.2 rfl) kk
theorem CX.iadd {p1 p2 : Nat} {a : PE Int32} {b : XE Int32} (ha : CE Value.int G own cc nL d K rt w pc [p1] a) (hb : CX Value.int G own cc nL d K rt (w + 1) p1 [p2] b) (hd : decode cc p2 = .ok (.iadd, 1)) (hq : p2 + 1 ∈ E) : CX Value.int G own cc nL d K rt w pc E (xB (fun x y : Int32 => x + y) a b) := by
  intro p l e s m args below meth c P cl sl C σ rest Q hw hf kk
  refine ha p l e s m args below meth c P cl sl C σ rest hw hf.1 (fun q hq1 => ?_)
  cases List.mem_singleton.mp hq1
  refine hb p l e s m args below meth c P cl sl C σ _ _ (by simp [zcs, Value.category] at hw ⊢; omega) hf.2 (fun y σ' hy q hq1 => ?_)
  cases List.mem_singleton.mp hq1
  intro H locs ls hP hS hL
  exact lv_iadd C.1 C.2.1 hd (kk _ _ hy _ hq H locs ls hP hS hL)
-- statements
theorem CS.skip (hq : pc ∈ E) : CS G own cc nL d K rt E lb pc sSkip := by
  intro p l e s m args below meth c P cl sl C σ N B hf kN kB
  exact kN σ hf _ hq
theorem CS.seq (q : Nat) {a b : ZSt} (ha : CS G own cc nL d K rt [q] lb pc a) (hb : CS G own cc nL d K rt E lb q b) : CS G own cc nL d K rt E lb pc (sSeq a b) := by
  intro p l e s m args below meth c P cl sl C σ N B hf kN kB
  refine ha p l e s m args below meth c P cl sl C σ _ B hf (fun σ' h x hx => ?_) kB
  cases List.mem_singleton.mp hx
  exact hb p l e s m args below meth c P cl sl C σ' N B h kN kB
theorem CS.if1 {T F : Nat} {c : XE Bool} {a : ZSt} (hc : CD G own cc nL d K rt 0 pc T F c) (ha : CS G own cc nL d K rt E lb T a) (hF : F ∈ E) : CS G own cc nL d K rt E lb pc (sIf c a sSkip) := by
  intro p l e s m args below meth c' P cl sl C σ N B hf kN kB
  exact hc p l e s m args below meth c' P cl sl C σ [] _ (Nat.le_refl _) hf (fun σ' h => ha p l e s m args below meth c' P cl sl C σ' N B (h.1 rfl) kN kB) (fun σ' h => kN σ' (h.2 rfl) _ hF)
/-- if and else: behind the first arm a jump (at p1, to q), which jumps within it may already take -/
theorem CS.if2 {T F p1 q : Nat} {off : Int} {c : XE Bool} {a b : ZSt} (hc : CD G own cc nL d K rt 0 pc T F c) (ha : CS G own cc nL d K rt [p1, q] lb T a) (hd : decode cc p1 = .ok (.goto off, 3)) (ht : (p1 : Int) + off = (q : Int)) (hq : q ∈ E) (hb : CS G own cc nL d K rt E lb F b) : CS G own cc nL d K rt E lb pc (sIf c a b) := by
  intro p l e s m args below meth c' P cl sl C σ N B hf kN kB
  refine hc p l e s m args below meth c' P cl sl C σ [] _ (Nat.le_refl _) hf (fun σ' h => ha p l e s m args below meth c' P cl sl C σ' N B (h.1 rfl) (fun σ2 h2 x hx => ?_) kB) (fun σ' h => hb p l e s m args below meth c' P cl sl C σ' N B (h.2 rfl) kN kB)
  rcases List.mem_cons.mp hx with rfl | hx
  · exact z_goto C hd ht (kN σ2 h2 q hq)
  · cases List.mem_singleton.mp hx
    exact kN σ2 h2 _ hq
/-- if and else, where the first arm never comes to its end -/
theorem CS.if3 {T F : Nat} {c : XE Bool} {a b : ZSt} (hc : CD G own cc nL d K rt 0 pc T F c) (ha : CS G own cc nL d K rt [] lb T a) (hb : CS G own cc nL d K rt E lb F b) : CS G own cc nL d K rt E lb pc (sIf c a b) := by
  intro p l e s m args below meth c' P cl sl C σ N B hf kN kB
  exact hc p l e s m args below meth c' P cl sl C σ [] _ (Nat.le_refl _) hf (fun σ' h => ha p l e s m args below meth c' P cl sl C σ' N B (h.1 rfl) (fun σ2 h2 x hx => by cases hx) kB) (fun σ' h => hb p l e s m args below meth c' P cl sl C σ' N B (h.2 rfl) kN kB)
theorem CS.whl {T F p1 : Nat} {off : Int} {c : XE Bool} {a : ZSt} (hc : CD G own cc nL d K rt 0 pc T F c) (ha : CS G own cc nL d K rt [p1, pc] lb T a) (hd : decode cc p1 = .ok (.goto off, 3)) (ht : (p1 : Int) + off = (pc : Int)) (hF : F ∈ E) : CS G own cc nL d K rt E lb pc (sWhl c a) := by
  intro p l e s m args below meth c' P cl sl C σ N B hf kN kB
  obtain ⟨I, n, h0, hs⟩ := hf
  induction n using Nat.strongRecOn generalizing σ with
  | ind n ih =>
    refine hc p l e s m args below meth c' P cl sl C σ [] _ (Nat.le_refl _) (hs n σ h0) (fun σ' h => ha p l e s m args below meth c' P cl sl C σ' _ B (h.1 rfl) (fun σ2 h2 x hx => ?_) kB) (fun σ' h => kN σ' (h.2 rfl) _ hF)
    obtain ⟨n', h3, h4⟩ := h2
    have h5 := ih n' h3 σ2 h4
    rcases List.mem_cons.mp hx with rfl | hx
    · exact z_goto C hd ht h5
    · cases List.mem_singleton.mp hx
      exact h5
theorem CS.for {kb kc T F pu p1 : Nat} {off : Int} {c : XE Bool} {u a : ZSt} (hc : CD G own cc nL d K rt 0 pc T F c) (ha : CS G own cc nL d K rt [pu] (fun k => if k = kc then [pu] else if k = kb then E else lb k) T a) (hu : CS G own cc nL d K rt [p1] lb pu u) (hd : decode cc p1 = .ok (.goto off, 3)) (ht : (p1 : Int) + off = (pc : Int)) (hF : F ∈ E) : CS G own cc nL d K rt E lb pc (sFor kb kc c u a) := by
  intro p l e s m args below meth c' P cl sl C σ N B hf kN kB
  obtain ⟨I, n, h0, hs⟩ := hf
  induction n using Nat.strongRecOn generalizing σ with
  | ind n ih =>
    have step : ∀ σ2, u σ2 (fun σ3 => ∃ n', n' < n ∧ I n' σ3) P B → zW G nL d p l e s m args below meth c' P cl sl pu σ2 [] := fun σ2 h2 => by
      refine hu p l e s m args below meth c' P cl sl C σ2 _ B h2 (fun σ3 h3 x hx => ?_) kB
      cases List.mem_singleton.mp hx
      obtain ⟨n', h3, h4⟩ := h3
      exact z_goto C hd ht (ih n' h3 σ3 h4)
    refine hc p l e s m args below meth c' P cl sl C σ [] _ (Nat.le_refl _) (hs n σ h0) (fun σ' h => ha p l e s m args below meth c' P cl sl C σ' _ _ (h.1 rfl) (fun σ2 h2 x hx => ?_) (fun k σ2 h2 x hx => ?_)) (fun σ' h => kN σ' (h.2 rfl) _ hF)
    · cases List.mem_singleton.mp hx
      exact step σ2 h2
    · by_cases h3 : k = kc
      · simp only [h3, if_true] at h2 hx
        cases List.mem_singleton.mp hx
        exact step σ2 h2
      · by_cases h4 : k = kb
        · simp only [if_neg h3, if_pos h4] at h2 hx
          exact kN σ2 h2 x hx
        · simp only [if_neg h3, if_neg h4] at h2 hx
          exact kB k σ2 h2 x hx
/-- the same without a step (while): the jump back at p1 -/
theorem CS.forW {kb kc T F p1 : Nat} {off : Int} {c : XE Bool} {a : ZSt} (hc : CD G own cc nL d K rt 0 pc T F c) (ha : CS G own cc nL d K rt [p1, pc] (fun k => if k = kc then [p1, pc] else if k = kb then E else lb k) T a) (hd : decode cc p1 = .ok (.goto off, 3)) (ht : (p1 : Int) + off = (pc : Int)) (hF : F ∈ E) : CS G own cc nL d K rt E lb pc (sFor kb kc c sSkip a) := by
  intro p l e s m args below meth c' P cl sl C σ N B hf kN kB
  obtain ⟨I, n, h0, hs⟩ := hf
  induction n using Nat.strongRecOn generalizing σ with
  | ind n ih =>
    have step : ∀ σ2, (∃ n', n' < n ∧ I n' σ2) → ∀ x ∈ [p1, pc], zW G nL d p l e s m args below meth c' P cl sl x σ2 [] := fun σ2 h2 x hx => by
      obtain ⟨n', h3, h4⟩ := h2
      have h5 := ih n' h3 σ2 h4
      rcases List.mem_cons.mp hx with rfl | hx
      · exact z_goto C hd ht h5
      · cases List.mem_singleton.mp hx
        exact h5
    refine hc p l e s m args below meth c' P cl sl C σ [] _ (Nat.le_refl _) (hs n σ h0) (fun σ' h => ha p l e s m args below meth c' P cl sl C σ' _ _ (h.1 rfl) (fun σ2 h2 x hx => step σ2 h2 x hx) (fun k σ2 h2 x hx => ?_)) (fun σ' h => kN σ' (h.2 rfl) _ hF)
    by_cases h3 : k = kc
    · simp only [h3, if_true] at h2 hx
      exact step σ2 h2 x hx
    · by_cases h4 : k = kb
      · simp only [if_neg h3, if_pos h4] at h2 hx
        exact kN σ2 h2 x hx
      · simp only [if_neg h3, if_neg h4] at h2 hx
        exact kB k σ2 h2 x hx
theorem CS.brk {k q : Nat} {off : Int} (hd : decode cc pc = .ok (.goto off, 3)) (ht : (pc : Int) + off = (q : Int)) (hq : q ∈ lb k) : CS G own cc nL d K rt E lb pc (sBrk k) := by
  intro p l e s m args below meth c P cl sl C σ N B hf kN kB
  exact z_goto C hd ht (kB k σ hf q hq)
/-- a jump that stands nowhere: what jumps here already went on to the label -/
theorem CS.brk0 {k : Nat} (hq : pc ∈ lb k) : CS G own cc nL d K rt E lb pc (sBrk k) := by
  intro p l e s m args below meth c P cl sl C σ N B hf kN kB
  exact kB k σ hf pc hq
theorem CS.scope {n : Nat} {a : ZSt} (ha : CS G own cc nL d K rt E lb pc a) : CS G own cc nL d K rt E lb pc (sScope n a) := by
  intro p l e s m args below meth c P cl sl C σ N B hf kN kB
  refine ha p l e s m args below meth c P cl sl C σ _ B hf (fun σ' h x hx => ?_) kB
  have h1 := kN _ h.2 x hx
  intro H locs ls hP hS hL
  exact h1 H locs ls hP hS (zL_take hL n h.1)
end ZS1
