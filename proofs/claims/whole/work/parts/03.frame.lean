/-! THE FRAME. A world of fixed shape: cells at b, b + 1, ..; a cell's shape ZD: an object (class number; its fields: none int, some none long, some (some r) the reference to cell r), or an array (0 int, 1 long, 2 byte, 3 boolean, 4 int[]; its length; the cell of its first row). What the cells hold: ZM, ints and longs by cell and place. -/
abbrev ZM : Type := (Nat → Nat → Int32) × (Nat → Nat → Int64)
abbrev ZS : Type := List Value × ZM
abbrev ZD : Type := (Nat × List (Option (Option Nat))) ⊕ (Nat × Nat × Nat)
abbrev ZG : Type := va_G × (Nat → ClassId) × Nat × List ZD
abbrev ZKt : Type := Nat → List Value → ZM → (Option Value → ZM → Prop) → Prop
abbrev ZFt : Type := Nat → List Value → ZM → Value
def zsh (b : Nat) : Value → Value
  | .ref a => .ref (b + a)
  | v => v
theorem zsh_cat (b : Nat) (v : Value) : (zsh b v).category = v.category := by cases v <;> rfl
def ztys (G : ZG) : List (ClassId × FieldType) := [(G.2.1 0, .int), (G.2.1 1, .long), (G.2.1 2, .byte), (G.2.1 3, .boolean), (G.2.1 4, .array .int)]
def zK (G : ZG) (s : State) : Prop := va_K G.1 vwCl (ztys G) s
def zfv (b : Nat) (μ : ZM) (a k : Nat) : Option (Option Nat) → Value
  | none => .int (μ.1 a k)
  | some none => .long (μ.2 a k)
  | some (some r) => .ref (b + r)
def zar (b : Nat) (μ : ZM) (a t n r : Nat) : vp_A := (n, match t with
  | 1 => .inr (.inl (μ.2 a))
  | 4 => .inr (.inr (.inr (.inr (fun j => some (b + (r + j))))))
  | _ => .inl (μ.1 a))
def zcell (G : ZG) (μ : ZM) (a : Nat) : ZD → va_E
  | .inl (ci, fs) => .inr (ci, fs.mapIdx (zfv G.2.2.1 μ a))
  | .inr (t, n, r) => .inl (G.2.1 t, zar G.2.2.1 μ a t n r)
def zw (G : ZG) (μ : ZM) : va_W := G.2.2.2.mapIdx (fun a d => (G.2.2.1 + a, zcell G μ a d))
def zA (G : ZG) : Nat → Prop := fun q => G.2.2.1 ≤ q ∧ q < G.2.2.1 + G.2.2.2.length
theorem zw_at {G : ZG} {μ : ZM} {a : Nat} {d : ZD} (h : G.2.2.2[a]? = some d) : (zw G μ)[a]? = some (G.2.2.1 + a, zcell G μ a d) := by
  simp [zw, List.getElem?_mapIdx, h]
theorem zw_in {G : ZG} {μ : ZM} {i : Nat} {q : Nat × va_E} (h : (zw G μ)[i]? = some q) : ∃ d, G.2.2.2[i]? = some d ∧ q = (G.2.2.1 + i, zcell G μ i d) := by
  simp only [zw, List.getElem?_mapIdx] at h
  cases hd : G.2.2.2[i]? with
  | none => rw [hd] at h; cases h
  | some d => rw [hd] at h; exact ⟨d, rfl, (Option.some.inj h).symm⟩
theorem zw_D (G : ZG) (μ : ZM) : va_D (zA G) (zw G μ) := by
  refine ⟨fun i j x y hi hj hxy => ?_, fun k q hk => ?_⟩
  · obtain ⟨d, -, rfl⟩ := zw_in hi
    obtain ⟨d', -, rfl⟩ := zw_in hj
    exact Nat.add_left_cancel hxy
  · obtain ⟨d, h1, rfl⟩ := zw_in hk
    exact ⟨Nat.le_add_right _ _, Nat.add_lt_add_left (List.getElem?_eq_some_iff.mp h1).1 _⟩
theorem zw_set {G : ZG} {μ μ' : ZM} {a : Nat} {d : ZD} {e : va_E} (h : G.2.2.2[a]? = some d) (he : zcell G μ' a d = e) (ho : ∀ a' d', a' ≠ a → zcell G μ' a' d' = zcell G μ a' d') : (zw G μ).set a (G.2.2.1 + a, e) = zw G μ' := by
  apply List.ext_getElem?
  intro i
  by_cases hi : a = i
  · subst hi
    have hlt : a < (zw G μ).length := (List.getElem?_eq_some_iff.mp (zw_at (μ := μ) h)).1
    rw [List.getElem?_set_self hlt, zw_at h, he]
  · rw [List.getElem?_set_ne hi]
    simp only [zw, List.getElem?_mapIdx]
    cases hd : G.2.2.2[i]? with
    | none => rfl
    | some d' => simp only [Option.map_some]; rw [ho i d' (fun z => hi z.symm)]
def zset (μ : ZM) (a k : Nat) (x : Int32) : ZM := (fun a' => if a' = a then upd (μ.1 a) k x else μ.1 a', μ.2)
def zsetL (μ : ZM) (a k : Nat) (x : Int64) : ZM := (μ.1, fun a' => if a' = a then vp_updL (μ.2 a) k x else μ.2 a')
theorem zset_1 (μ : ZM) (a k : Nat) (x : Int32) : (zset μ a k x).1 a = upd (μ.1 a) k x := by simp [zset]
theorem zset_ne (μ : ZM) {a a' : Nat} (k : Nat) (x : Int32) (h : a' ≠ a) : (zset μ a k x).1 a' = μ.1 a' := by simp [zset, h]
theorem zset_2 (μ : ZM) (a k : Nat) (x : Int32) : (zset μ a k x).2 = μ.2 := rfl
theorem zsetL_2 (μ : ZM) (a k : Nat) (x : Int64) : (zsetL μ a k x).2 a = vp_updL (μ.2 a) k x := by simp [zsetL]
theorem zsetL_ne (μ : ZM) {a a' : Nat} (k : Nat) (x : Int64) (h : a' ≠ a) : (zsetL μ a k x).2 a' = μ.2 a' := by simp [zsetL, h]
theorem zsetL_1 (μ : ZM) (a k : Nat) (x : Int64) : (zsetL μ a k x).1 = μ.1 := rfl
theorem zcell_off {G : ZG} {μ μ' : ZM} {a : Nat} (h1 : μ'.1 a = μ.1 a) (h2 : μ'.2 a = μ.2 a) (d : ZD) : zcell G μ' a d = zcell G μ a d := by
  cases d with
  | inl x =>
    have : zfv G.2.2.1 μ' a = zfv G.2.2.1 μ a := by
      funext k q
      cases q with
      | none => simp [zfv, h1]
      | some q => cases q with
        | none => simp [zfv, h2]
        | some r => rfl
    simp [zcell, this]
  | inr x =>
    obtain ⟨t, n, r⟩ := x
    have : zar G.2.2.1 μ' a t n r = zar G.2.2.1 μ a t n r := by
      unfold zar
      rw [h1, h2]
    simp [zcell, this]
/-! locals: what is known of them, place by place; null: nothing (the second half of a long) -/
def zL (b : Nat) (ls : Array Slot) (nL : Nat) (L : List Value) : Prop := ls.size = nL ∧ lv_wf ls ∧ (∀ (i : Nat) (v : Value), L[i]? = some v → v = .null ∨ ls[i]? = some (.val (zsh b v))) ∧ ∀ (i : Nat) (v : Value), L[i]? = some v → v.category = 2 → L[i + 1]? = some .null
def zas (b : Nat) : Nat → List Value → List (Nat × Value)
  | _, [] => []
  | n, .null :: L => zas b (n + 1) L
  | n, v :: L => (n, zsh b v) :: zas b (n + 1) L
theorem zas_in {b : Nat} : ∀ (L : List Value) (n : Nat) (q : Nat × Value), q ∈ zas b n L ↔ ∃ (j : Nat) (v : Value), q = (n + j, zsh b v) ∧ L[j]? = some v ∧ v ≠ .null := by
  intro L
  induction L with
  | nil => intro n q; simp [zas]
  | cons u L ih =>
    intro n q
    have key : (q ∈ zas b (n + 1) L) ↔ ∃ (j : Nat) (v : Value), q = (n + (j + 1), zsh b v) ∧ L[j]? = some v ∧ v ≠ .null := by
      rw [ih (n + 1) q]
      constructor
      · rintro ⟨j, v, h1, h2, h3⟩
        exact ⟨j, v, by rw [h1]; congr 1; omega, h2, h3⟩
      · rintro ⟨j, v, h1, h2, h3⟩
        exact ⟨j, v, by rw [h1]; congr 1; omega, h2, h3⟩
    by_cases hu : u = .null
    · subst hu
      show q ∈ zas b (n + 1) L ↔ _
      rw [key]
      constructor
      · rintro ⟨j, v, h1, h2, h3⟩
        exact ⟨j + 1, v, h1, by simpa using h2, h3⟩
      · rintro ⟨j, v, h1, h2, h3⟩
        cases j with
        | zero => simp at h2; exact absurd h2.symm h3
        | succ j => exact ⟨j, v, h1, by simpa using h2, h3⟩
    · have hz : zas b n (u :: L) = (n, zsh b u) :: zas b (n + 1) L := by
        cases u <;> first | rfl | exact absurd rfl hu
      rw [hz, List.mem_cons, key]
      constructor
      · rintro (h | ⟨j, v, h1, h2, h3⟩)
        · exact ⟨0, u, by rw [h]; rfl, rfl, hu⟩
        · exact ⟨j + 1, v, h1, by simpa using h2, h3⟩
      · rintro ⟨j, v, h1, h2, h3⟩
        cases j with
        | zero => simp at h2; subst h2; exact Or.inl h1
        | succ j => exact Or.inr ⟨j, v, h1, by simpa using h2, h3⟩
theorem zL_has {b : Nat} {ls : Array Slot} {nL : Nat} {L : List Value} (h : zL b ls nL L) : lv_has ls nL (zas b 0 L) := by
  refine ⟨h.1, h.2.1, fun q hq => ?_⟩
  obtain ⟨j, v, rfl, h2, h3⟩ := (zas_in L 0 q).mp hq
  rcases h.2.2.1 j v h2 with h4 | h4
  · exact absurd h4 h3
  · simpa using h4
theorem zL_at {b : Nat} {ls : Array Slot} {nL : Nat} {L : List Value} (h : zL b ls nL L) {i : Nat} {v : Value} (hv : L[i]? = some v) (hn : v ≠ .null) : ls[i]? = some (.val (zsh b v)) := (h.2.2.1 i v hv).resolve_left hn
/-- a store: what is known behind it -/
theorem zL_st {b : Nat} {ls : Array Slot} {nL : Nat} {L L' : List Value} {i : Nat} {v : Value} {f : Nat × Value → Bool} (h : zL b ls nL L) {ls' : Array Slot} (h' : lv_has ls' nL ((i, zsh b v) :: (zas b 0 L).filter f))
    (hL' : ∀ (j : Nat) (u : Value), L'[j]? = some u → u = .null ∨ (j = i ∧ u = v) ∨ (L[j]? = some u ∧ f (j, zsh b u) = true)) (hc : ∀ (j : Nat) (u : Value), L'[j]? = some u → u.category = 2 → L'[j + 1]? = some .null) : zL b ls' nL L' := by
  refine ⟨h'.1, h'.2.1, fun j u hu => ?_, hc⟩
  by_cases hn : u = .null
  · exact Or.inl hn
  rcases hL' j u hu with h1 | ⟨rfl, rfl⟩ | ⟨h1, h2⟩
  · exact Or.inl h1
  · exact Or.inr (h'.2.2 (j, zsh b u) List.mem_cons_self)
  · exact Or.inr (h'.2.2 (j, zsh b u) (List.mem_cons_of_mem _ (List.mem_filter.mpr ⟨(zas_in L 0 _).mpr ⟨j, u, by simp, h1, hn⟩, h2⟩)))
theorem zL_set1 {b : Nat} {ls : Array Slot} {nL : Nat} {L : List Value} {i : Nat} {v w : Value} (h : zL b ls nL L) (hw : L[i]? = some w) (hwn : w ≠ .null) (hwc : w.category = 1) (hv : v.category = 1) {ls' : Array Slot}
    (h' : lv_has ls' nL ((i, zsh b v) :: (zas b 0 L).filter (fun q => !(q.1 == i) && !(q.1 + 1 == i && q.2.category == 2)))) : zL b ls' nL (L.set i v) := by
  have hlt : i < L.length := (List.getElem?_eq_some_iff.mp hw).1
  refine zL_st h h' (fun j u hu => ?_) (fun j u hu hc => ?_)
  · by_cases hj : i = j
    · subst hj
      rw [List.getElem?_set_self hlt] at hu
      exact Or.inr (Or.inl ⟨rfl, (Option.some.inj hu).symm⟩)
    · rw [List.getElem?_set_ne hj] at hu
      refine Or.inr (Or.inr ⟨hu, ?_⟩)
      have h1 : (j == i) = false := by simp; omega
      by_cases hc : u.category = 2
      · have h2 := h.2.2.2 j u hu hc
        have h3 : (j + 1 == i) = false := by
          simp
          intro e
          rw [e, hw] at h2
          exact hwn (Option.some.inj h2)
        simp [h1, h3]
      · simp [h1, zsh_cat, hc]
  · by_cases hj : i = j
    · subst hj
      rw [List.getElem?_set_self hlt] at hu
      rw [← Option.some.inj hu, hv] at hc
      cases hc
    · rw [List.getElem?_set_ne hj] at hu
      have h2 := h.2.2.2 j u hu hc
      have h3 : i ≠ j + 1 := by
        intro e
        rw [← e, hw] at h2
        exact hwn (Option.some.inj h2)
      rw [List.getElem?_set_ne h3]
      exact h2
theorem zL_app1 {b : Nat} {ls : Array Slot} {nL : Nat} {L : List Value} {i : Nat} {v : Value} (h : zL b ls nL L) (hi : L.length = i) (hv : v.category = 1) {ls' : Array Slot}
    (h' : lv_has ls' nL ((i, zsh b v) :: (zas b 0 L).filter (fun q => !(q.1 == i) && !(q.1 + 1 == i && q.2.category == 2)))) : zL b ls' nL (L ++ [v]) := by
  subst hi
  have hnl : ∀ (j : Nat) (u : Value), L[j]? = some u → u.category = 2 → j + 1 < L.length := fun j u hu hc => (List.getElem?_eq_some_iff.mp (h.2.2.2 j u hu hc)).1
  refine zL_st h h' (fun j u hu => ?_) (fun j u hu hc => ?_)
  · by_cases hj : j < L.length
    · rw [List.getElem?_append_left hj] at hu
      refine Or.inr (Or.inr ⟨hu, ?_⟩)
      have h1 : (j == L.length) = false := by simp; omega
      by_cases hc : u.category = 2
      · have h2 := hnl j u hu hc
        have h3 : (j + 1 == L.length) = false := by simp; omega
        simp [h1, h3]
      · simp [h1, zsh_cat, hc]
    · rw [List.getElem?_append_right (by omega)] at hu
      have h0 : j - L.length < 1 := (List.getElem?_eq_some_iff.mp hu).1
      rw [show j - L.length = 0 by omega] at hu
      exact Or.inr (Or.inl ⟨by omega, (Option.some.inj hu).symm⟩)
  · by_cases hj : j < L.length
    · rw [List.getElem?_append_left hj] at hu
      have h2 := hnl j u hu hc
      rw [List.getElem?_append_left h2]
      exact h.2.2.2 j u hu hc
    · rw [List.getElem?_append_right (by omega)] at hu
      have h0 : j - L.length < 1 := (List.getElem?_eq_some_iff.mp hu).1
      rw [show j - L.length = 0 by omega] at hu
      rw [← Option.some.inj hu, hv] at hc
      cases hc
theorem zL_app2 {b : Nat} {ls : Array Slot} {nL : Nat} {L : List Value} {i : Nat} {v : Value} (h : zL b ls nL L) (hi : L.length = i) {ls' : Array Slot}
    (h' : lv_has ls' nL ((i, zsh b v) :: (zas b 0 L).filter (fun q => !(q.1 == i) && (!(q.1 == i + 1) && !(q.1 + 1 == i && q.2.category == 2))))) : zL b ls' nL (L ++ [v, .null]) := by
  subst hi
  have hnl : ∀ (j : Nat) (u : Value), L[j]? = some u → u.category = 2 → j + 1 < L.length := fun j u hu hc => (List.getElem?_eq_some_iff.mp (h.2.2.2 j u hu hc)).1
  refine zL_st h h' (fun j u hu => ?_) (fun j u hu hc => ?_)
  · by_cases hj : j < L.length
    · rw [List.getElem?_append_left hj] at hu
      refine Or.inr (Or.inr ⟨hu, ?_⟩)
      have h1 : (j == L.length) = false := by simp; omega
      have h4 : (j == L.length + 1) = false := by simp; omega
      by_cases hc : u.category = 2
      · have h2 := hnl j u hu hc
        have h3 : (j + 1 == L.length) = false := by simp; omega
        simp [h1, h3, h4]
      · simp [h1, h4, zsh_cat, hc]
    · rw [List.getElem?_append_right (by omega)] at hu
      have h0 : j - L.length < 2 := (List.getElem?_eq_some_iff.mp hu).1
      rcases (by omega : j - L.length = 0 ∨ j - L.length = 1) with z | z
      · rw [z] at hu
        exact Or.inr (Or.inl ⟨by omega, (Option.some.inj hu).symm⟩)
      · rw [z] at hu
        exact Or.inl (Option.some.inj hu).symm
  · by_cases hj : j < L.length
    · rw [List.getElem?_append_left hj] at hu
      have h2 := hnl j u hu hc
      rw [List.getElem?_append_left h2]
      exact h.2.2.2 j u hu hc
    · rw [List.getElem?_append_right (by omega)] at hu
      have h0 : j - L.length < 2 := (List.getElem?_eq_some_iff.mp hu).1
      rcases (by omega : j - L.length = 0 ∨ j - L.length = 1) with z | z
      · rw [List.getElem?_append_right (by omega), show j + 1 - L.length = 1 by omega]; rfl
      · rw [z] at hu
        rw [← Option.some.inj hu] at hc
        cases hc
theorem zL_set2 {b : Nat} {ls : Array Slot} {nL : Nat} {L : List Value} {i : Nat} {v w : Value} (h : zL b ls nL L) (hw : L[i]? = some w) (hwn : w ≠ .null) (hwc : w.category = 2) {ls' : Array Slot}
    (h' : lv_has ls' nL ((i, zsh b v) :: (zas b 0 L).filter (fun q => !(q.1 == i) && (!(q.1 == i + 1) && !(q.1 + 1 == i && q.2.category == 2))))) : zL b ls' nL (L.set i v) := by
  have hlt : i < L.length := (List.getElem?_eq_some_iff.mp hw).1
  have hnx := h.2.2.2 i w hw hwc
  refine zL_st h h' (fun j u hu => ?_) (fun j u hu hc => ?_)
  · by_cases hj : i = j
    · subst hj
      rw [List.getElem?_set_self hlt] at hu
      exact Or.inr (Or.inl ⟨rfl, (Option.some.inj hu).symm⟩)
    · rw [List.getElem?_set_ne hj] at hu
      by_cases hj1 : j = i + 1
      · subst hj1
        rw [hnx] at hu
        exact Or.inl (Option.some.inj hu).symm
      refine Or.inr (Or.inr ⟨hu, ?_⟩)
      have h1 : (j == i) = false := by simp; omega
      have h4 : (j == i + 1) = false := by simp; omega
      by_cases hc : u.category = 2
      · have h2 := h.2.2.2 j u hu hc
        have h3 : (j + 1 == i) = false := by
          simp
          intro e
          rw [e, hw] at h2
          exact hwn (Option.some.inj h2)
        simp [h1, h3, h4]
      · simp [h1, h4, zsh_cat, hc]
  · by_cases hj : i = j
    · subst hj
      rw [List.getElem?_set_ne (by omega)]
      exact hnx
    · rw [List.getElem?_set_ne hj] at hu
      have h2 := h.2.2.2 j u hu hc
      have h3 : i ≠ j + 1 := by
        intro e
        rw [← e, hw] at h2
        exact hwn (Option.some.inj h2)
      rw [List.getElem?_set_ne h3]
      exact h2
theorem zL_take {b : Nat} {ls : Array Slot} {nL : Nat} {L : List Value} (h : zL b ls nL L) (n : Nat) (hn : ∀ v, L[n - 1]? = some v → v.category = 1) : zL b ls nL (L.take n) := by
  refine ⟨h.1, h.2.1, fun i v hv => ?_, fun i v hv hc => ?_⟩
  · rw [List.getElem?_take] at hv
    split at hv
    · exact h.2.2.1 i v hv
    · cases hv
  · rw [List.getElem?_take] at hv
    split at hv
    · rename_i hi
      rw [List.getElem?_take]
      have h9 : i + 1 ≠ n := by
        intro e
        have := hn v (by rw [show n - 1 = i by omega]; exact hv)
        omega
      rw [if_pos (by omega)]
      exact h.2.2.2 i v hv hc
    · cases hv
/-- the locals at a method's entry -/
def zen : List Value → List Value
  | [] => []
  | .long x :: L => .long x :: .null :: zen L
  | .double x :: L => .double x :: .null :: zen L
  | v :: L => v :: zen L
