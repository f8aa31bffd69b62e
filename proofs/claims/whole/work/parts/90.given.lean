/-! LAYER B: given, what the class and the reference work out of a word -/
def hTX (μ : ZM) (s l : Int32) (i : Nat) : Int32 := sumS i (fun i' => if ¬ l < μ.1 156 i' ∧ μ.1 158 (μ.1 156 i').toNatClampNeg = s then μ.1 (143 + s.toNatClampNeg) (μ.1 154 (μ.1 156 i').toNatClampNeg).toNatClampNeg else 0)
def inTX (μ : ZM) (s l : Int32) : Bool := allB (μ.1 153 0).toNatClampNeg (fun i => decide (l < μ.1 156 i) || (!decide (μ.1 158 (μ.1 156 i).toNatClampNeg = s) || !decide (μ.1 155 (μ.1 156 i).toNatClampNeg * μ.1 136 s.toNatClampNeg < hTX μ s l (i + 1))))
def hbX (μ : ZM) (s o : Int32) : Nat → Bool × Int32
  | 0 => (false, 0)
  | i + 1 => if (hbX μ s o i).1 = true then hbX μ s o i else (decide (μ.1 156 i = o), if μ.1 157 (μ.1 156 i).toNatClampNeg = s then (hbX μ s o i).2 + μ.1 (143 + s.toNatClampNeg) (μ.1 154 (μ.1 156 i).toNatClampNeg).toNatClampNeg else (hbX μ s o i).2)
def shX (μ : ZM) (o : Int32) : Int32 := if ¬ μ.1 153 5 = -1 ∧ (0 ≤ o ∧ o < μ.1 153 0) then μ.1 157 o.toNatClampNeg else -1
def rup (h a : Int32) : Int32 := if a < 1 then -1 else (h + a - 1) / a
def dayX (μ : ZM) (o : Int32) : Int32 := if 0 ≤ shX μ o ∧ shX μ o < 4 then rup (hbX μ (shX μ o) o (μ.1 153 0).toNatClampNeg).2 (μ.1 136 (shX μ o).toNatClampNeg) else -1
def hdM (ν : ZM) (o n : Nat) : Int32 := sumS n (fun k => if ν.1 43 k = ν.1 43 o ∧ (ν.1 24 k < ν.1 24 o ∨ ν.1 24 k = ν.1 24 o ∧ nI k ≤ nI o) then ν.1 22 (8 * ν.1 43 o + ν.1 23 k).toNatClampNeg else 0)
def doM (ν : ZM) (o : Nat) : Int32 := (hdM ν o (ν.1 0 26).toNatClampNeg + ν.1 20 (ν.1 43 o).toNatClampNeg - 1) / ν.1 20 (ν.1 43 o).toNatClampNeg
def wcM (ν : ZM) (b : Int32) : Int32 := if (allB (ν.1 0 26).toNatClampNeg (fun k => !(decide (ν.1 43 k = b) || decide (ν.1 21 (8 * ν.1 43 k + ν.1 23 k).toNatClampNeg = 0))) && allB (ν.1 0 26).toNatClampNeg (fun k => !decide (ν.1 24 k < doM ν k))) = true then sumS (ν.1 0 26).toNatClampNeg (fun k => ν.1 21 (8 * ν.1 43 k + ν.1 23 k).toNatClampNeg) else -1
def Fgo (F : ZFt) : Prop := Fgm F ∧ (∀ s l μ, F 49 [.ref 153, .int s, .int l, .ref 135] μ = .int (zi (inTX μ s l))) ∧ (∀ o μ, F 50 [.ref 153, .int o] μ = .int (shX μ o)) ∧ (∀ o μ, F 51 [.ref 153, .int o, .ref 135] μ = .int (dayX μ o)) ∧ (∀ x a μ, F 52 [.int x, .int a] μ = .int (rup x a)) ∧ (∀ o μ, F 195 [.ref 0, .int o] μ = .int (doM μ o.toNatClampNeg)) ∧ (∀ b μ, F 197 [.ref 0, .int b] μ = .int (wcM μ b))
theorem Fgo.f49 {F : ZFt} (h : Fgo F) : ∀ s l μ, F 49 [.ref 153, .int s, .int l, .ref 135] μ = .int (zi (inTX μ s l)) := h.2.1
theorem Fgo.f50 {F : ZFt} (h : Fgo F) : ∀ o μ, F 50 [.ref 153, .int o] μ = .int (shX μ o) := h.2.2.1
theorem Fgo.f51 {F : ZFt} (h : Fgo F) : ∀ o μ, F 51 [.ref 153, .int o, .ref 135] μ = .int (dayX μ o) := h.2.2.2.1
theorem Fgo.f52 {F : ZFt} (h : Fgo F) : ∀ x a μ, F 52 [.int x, .int a] μ = .int (rup x a) := h.2.2.2.2.1
theorem Fgo.f195 {F : ZFt} (h : Fgo F) : ∀ o μ, F 195 [.ref 0, .int o] μ = .int (doM μ o.toNatClampNeg) := h.2.2.2.2.2.1
theorem Fgo.f197 {F : ZFt} (h : Fgo F) : ∀ b μ, F 197 [.ref 0, .int b] μ = .int (wcM μ b) := h.2.2.2.2.2.2
theorem Fgo.gm {F : ZFt} (h : Fgo F) : Fgm F := h.1
def Fgo.f160 {F : ZFt} (h : Fgo F) := (h.1).f160
theorem Fgo.gi {F : ZFt} (h : Fgo F) : Fgi F := h.1.1
def Fgo.f24 {F : ZFt} (h : Fgo F) := (h.1.1).f24
def Fgo.f25 {F : ZFt} (h : Fgo F) := (h.1.1).f25
theorem Fgo.gc {F : ZFt} (h : Fgo F) : Fgc F := h.1.1.1
def Fgo.f9 {F : ZFt} (h : Fgo F) := (h.1.1.1).f9
theorem Fgo.of {F : ZFt} (h : Fgo F) : Fof F := h.1.1.1.1
def Fgo.f18 {F : ZFt} (h : Fgo F) := (h.1.1.1.1).f18
def Fgo.f19 {F : ZFt} (h : Fgo F) := (h.1.1.1.1).f19
theorem Fgo.pg {F : ZFt} (h : Fgo F) : Fpg F := h.1.1.1.1.1
def Fgo.f56 {F : ZFt} (h : Fgo F) := (h.1.1.1.1.1).f56
def Fgo.f57 {F : ZFt} (h : Fgo F) := (h.1.1.1.1.1).f57
theorem Fgo.le {F : ZFt} (h : Fgo F) : Fle F := h.1.1.1.1.1.1
def Fgo.f134 {F : ZFt} (h : Fgo F) := (h.1.1.1.1.1.1).f134
theorem Fgo.di {F : ZFt} (h : Fgo F) : Fdi F := h.1.1.1.1.1.1.1
def Fgo.f133 {F : ZFt} (h : Fgo F) := (h.1.1.1.1.1.1.1).f133
def Fgo.f20 {F : ZFt} (h : Fgo F) := (h.1.1.1.1.1.1.1).f20
def Fgo.f10 {F : ZFt} (h : Fgo F) := (h.1.1.1.1.1.1.1).f10
def Fgo.f88 {F : ZFt} (h : Fgo F) := (h.1.1.1.1.1.1.1).f88
def Fgo.f45 {F : ZFt} (h : Fgo F) := (h.1.1.1.1.1.1.1).f45
def Fgo.f78 {F : ZFt} (h : Fgo F) := (h.1.1.1.1.1.1.1).f78
def Fgo.f53 {F : ZFt} (h : Fgo F) := (h.1.1.1.1.1.1.1).f53
def Fgo.f32 {F : ZFt} (h : Fgo F) := (h.1.1.1.1.1.1.1).f32
def Fgo.f74 {F : ZFt} (h : Fgo F) := (h.1.1.1.1.1.1.1).f74
def Fgo.f61 {F : ZFt} (h : Fgo F) := (h.1.1.1.1.1.1.1).f61
theorem Fgo.co {F : ZFt} (h : Fgo F) : Fco F := h.1.1.1.1.1.1.1.1
def Fgo.f34 {F : ZFt} (h : Fgo F) := (h.1.1.1.1.1.1.1.1).f34
def Fgo.f127 {F : ZFt} (h : Fgo F) := (h.1.1.1.1.1.1.1.1).f127
def Fgo.f211 {F : ZFt} (h : Fgo F) := (h.1.1.1.1.1.1.1.1).f211
theorem Fgo.df {F : ZFt} (h : Fgo F) : Fdf F := h.1.1.1.1.1.1.1.1.1
def Fgo.f73 {F : ZFt} (h : Fgo F) := (h.1.1.1.1.1.1.1.1.1).f73
def Fgo.f72 {F : ZFt} (h : Fgo F) := (h.1.1.1.1.1.1.1.1.1).f72
def Fgo.f209 {F : ZFt} (h : Fgo F) := (h.1.1.1.1.1.1.1.1.1).f209
theorem Fgo.en {F : ZFt} (h : Fgo F) : Fen F := h.1.1.1.1.1.1.1.1.1.1
def Fgo.f216 {F : ZFt} (h : Fgo F) := (h.1.1.1.1.1.1.1.1.1.1).f216
def Fgo.f29 {F : ZFt} (h : Fgo F) := (h.1.1.1.1.1.1.1.1.1.1).f29
def Fgo.f31 {F : ZFt} (h : Fgo F) := (h.1.1.1.1.1.1.1.1.1.1).f31
def Fgo.f30 {F : ZFt} (h : Fgo F) := (h.1.1.1.1.1.1.1.1.1.1).f30
def Fgo.f28 {F : ZFt} (h : Fgo F) := (h.1.1.1.1.1.1.1.1.1.1).f28
def Fgo.f27 {F : ZFt} (h : Fgo F) := (h.1.1.1.1.1.1.1.1.1.1).f27
def Fgo.f204 {F : ZFt} (h : Fgo F) := (h.1.1.1.1.1.1.1.1.1.1).f204
def Fgo.f205 {F : ZFt} (h : Fgo F) := (h.1.1.1.1.1.1.1.1.1.1).f205
theorem Fgo.fo {F : ZFt} (h : Fgo F) : Ffo F := h.1.1.1.1.1.1.1.1.1.1.1
def Fgo.f76 {F : ZFt} (h : Fgo F) := (h.1.1.1.1.1.1.1.1.1.1.1).f76
def Fgo.f77 {F : ZFt} (h : Fgo F) := (h.1.1.1.1.1.1.1.1.1.1.1).f77
theorem Fgo.bl {F : ZFt} (h : Fgo F) : Fbl F := h.1.1.1.1.1.1.1.1.1.1.1.1
def Fgo.f217 {F : ZFt} (h : Fgo F) := (h.1.1.1.1.1.1.1.1.1.1.1.1).f217
def Fgo.f187 {F : ZFt} (h : Fgo F) := (h.1.1.1.1.1.1.1.1.1.1.1.1).f187
def Fgo.f43 {F : ZFt} (h : Fgo F) := (h.1.1.1.1.1.1.1.1.1.1.1.1).f43
def Fgo.f42 {F : ZFt} (h : Fgo F) := (h.1.1.1.1.1.1.1.1.1.1.1.1).f42
def Fgo.f44 {F : ZFt} (h : Fgo F) := (h.1.1.1.1.1.1.1.1.1.1.1.1).f44
def Fgo.f186 {F : ZFt} (h : Fgo F) := (h.1.1.1.1.1.1.1.1.1.1.1.1).f186
def Fgo.f188 {F : ZFt} (h : Fgo F) := (h.1.1.1.1.1.1.1.1.1.1.1.1).f188
theorem Fgo.ri {F : ZFt} (h : Fgo F) : Fri F := h.1.1.1.1.1.1.1.1.1.1.1.1.1
def Fgo.f35 {F : ZFt} (h : Fgo F) := (h.1.1.1.1.1.1.1.1.1.1.1.1.1).f35
def Fgo.f36 {F : ZFt} (h : Fgo F) := (h.1.1.1.1.1.1.1.1.1.1.1.1.1).f36
def Fgo.f37 {F : ZFt} (h : Fgo F) := (h.1.1.1.1.1.1.1.1.1.1.1.1.1).f37
def Fgo.f178 {F : ZFt} (h : Fgo F) := (h.1.1.1.1.1.1.1.1.1.1.1.1.1).f178
def Fgo.f180 {F : ZFt} (h : Fgo F) := (h.1.1.1.1.1.1.1.1.1.1.1.1.1).f180
theorem Fgo.ch {F : ZFt} (h : Fgo F) : Fch F := h.1.1.1.1.1.1.1.1.1.1.1.1.1.1
def Fgo.f1 {F : ZFt} (h : Fgo F) := (h.1.1.1.1.1.1.1.1.1.1.1.1.1.1).f1
def Fgo.f2 {F : ZFt} (h : Fgo F) := (h.1.1.1.1.1.1.1.1.1.1.1.1.1.1).f2
def Fgo.f3 {F : ZFt} (h : Fgo F) := (h.1.1.1.1.1.1.1.1.1.1.1.1.1.1).f3
def Fgo.f4 {F : ZFt} (h : Fgo F) := (h.1.1.1.1.1.1.1.1.1.1.1.1.1.1).f4
def Fgo.f5 {F : ZFt} (h : Fgo F) := (h.1.1.1.1.1.1.1.1.1.1.1.1.1.1).f5
def Fgo.f153 {F : ZFt} (h : Fgo F) := (h.1.1.1.1.1.1.1.1.1.1.1.1.1.1).f153
def Fgo.f154 {F : ZFt} (h : Fgo F) := (h.1.1.1.1.1.1.1.1.1.1.1.1.1.1).f154
def Fgo.f155 {F : ZFt} (h : Fgo F) := (h.1.1.1.1.1.1.1.1.1.1.1.1.1.1).f155
def Fgo.f156 {F : ZFt} (h : Fgo F) := (h.1.1.1.1.1.1.1.1.1.1.1.1.1.1).f156
def Fgo.f157 {F : ZFt} (h : Fgo F) := (h.1.1.1.1.1.1.1.1.1.1.1.1.1.1).f157
theorem Fgo.kn {F : ZFt} (h : Fgo F) : Fkn F := h.1.1.1.1.1.1.1.1.1.1.1.1.1.1.1
def Fgo.f164 {F : ZFt} (h : Fgo F) := (h.1.1.1.1.1.1.1.1.1.1.1.1.1.1.1).f164
def Fgo.f165 {F : ZFt} (h : Fgo F) := (h.1.1.1.1.1.1.1.1.1.1.1.1.1.1.1).f165
def Fgo.f166 {F : ZFt} (h : Fgo F) := (h.1.1.1.1.1.1.1.1.1.1.1.1.1.1.1).f166
def Fgo.f81 {F : ZFt} (h : Fgo F) := (h.1.1.1.1.1.1.1.1.1.1.1.1.1.1.1).f81
def Fgo.f84 {F : ZFt} (h : Fgo F) := (h.1.1.1.1.1.1.1.1.1.1.1.1.1.1.1).f84
def Fgo.f85 {F : ZFt} (h : Fgo F) := (h.1.1.1.1.1.1.1.1.1.1.1.1.1.1.1).f85
def Fgo.f86 {F : ZFt} (h : Fgo F) := (h.1.1.1.1.1.1.1.1.1.1.1.1.1.1.1).f86
def Fgo.f87 {F : ZFt} (h : Fgo F) := (h.1.1.1.1.1.1.1.1.1.1.1.1.1.1.1).f87
theorem Fgo.ma {F : ZFt} (h : Fgo F) : Fma F := h.1.1.1.1.1.1.1.1.1.1.1.1.1.1.1.1
def Fgo.f137 {F : ZFt} (h : Fgo F) := (h.1.1.1.1.1.1.1.1.1.1.1.1.1.1.1.1).f137
def Fgo.f175 {F : ZFt} (h : Fgo F) := (h.1.1.1.1.1.1.1.1.1.1.1.1.1.1.1.1).f175
theorem Fgo.sm {F : ZFt} (h : Fgo F) : Fsm F := h.1.1.1.1.1.1.1.1.1.1.1.1.1.1.1.1.1
def Fgo.f174 {F : ZFt} (h : Fgo F) := (h.1.1.1.1.1.1.1.1.1.1.1.1.1.1.1.1.1).f174
def Fgo.f191 {F : ZFt} (h : Fgo F) := (h.1.1.1.1.1.1.1.1.1.1.1.1.1.1.1.1.1).f191
theorem Fgo.dr {F : ZFt} (h : Fgo F) : Fdr F := h.1.1.1.1.1.1.1.1.1.1.1.1.1.1.1.1.1.1
def Fgo.f11 {F : ZFt} (h : Fgo F) := (h.1.1.1.1.1.1.1.1.1.1.1.1.1.1.1.1.1.1).f11
def Fgo.f12 {F : ZFt} (h : Fgo F) := (h.1.1.1.1.1.1.1.1.1.1.1.1.1.1.1.1.1.1).f12
def Fgo.f13 {F : ZFt} (h : Fgo F) := (h.1.1.1.1.1.1.1.1.1.1.1.1.1.1.1.1.1.1).f13
def Fgo.f14 {F : ZFt} (h : Fgo F) := (h.1.1.1.1.1.1.1.1.1.1.1.1.1.1.1.1.1.1).f14
def Fgo.f15 {F : ZFt} (h : Fgo F) := (h.1.1.1.1.1.1.1.1.1.1.1.1.1.1.1.1.1.1).f15
def Fgo.f16 {F : ZFt} (h : Fgo F) := (h.1.1.1.1.1.1.1.1.1.1.1.1.1.1.1.1.1.1).f16
def Fgo.f17 {F : ZFt} (h : Fgo F) := (h.1.1.1.1.1.1.1.1.1.1.1.1.1.1.1.1.1.1).f17
def Fgo.f80 {F : ZFt} (h : Fgo F) := (h.1.1.1.1.1.1.1.1.1.1.1.1.1.1.1.1.1.1).f80
def Fgo.f138 {F : ZFt} (h : Fgo F) := (h.1.1.1.1.1.1.1.1.1.1.1.1.1.1.1.1.1.1).f138
def Fgo.f141 {F : ZFt} (h : Fgo F) := (h.1.1.1.1.1.1.1.1.1.1.1.1.1.1.1.1.1.1).f141
def Fgo.f143 {F : ZFt} (h : Fgo F) := (h.1.1.1.1.1.1.1.1.1.1.1.1.1.1.1.1.1.1).f143
def Fgo.f145 {F : ZFt} (h : Fgo F) := (h.1.1.1.1.1.1.1.1.1.1.1.1.1.1.1.1.1.1).f145
theorem Fgo.a {F : ZFt} (h : Fgo F) : Fa F := h.1.1.1.1.1.1.1.1.1.1.1.1.1.1.1.1.1.1.a
def Fgo.f129 {F : ZFt} (h : Fgo F) := (h.1.1.1.1.1.1.1.1.1.1.1.1.1.1.1.1.1.1.a).f129
def Fgo.f130 {F : ZFt} (h : Fgo F) := (h.1.1.1.1.1.1.1.1.1.1.1.1.1.1.1.1.1.1.a).f130
def Fgo.f132 {F : ZFt} (h : Fgo F) := (h.1.1.1.1.1.1.1.1.1.1.1.1.1.1.1.1.1.1.a).f132
def Fgo.f135 {F : ZFt} (h : Fgo F) := (h.1.1.1.1.1.1.1.1.1.1.1.1.1.1.1.1.1.1.a).f135
def Fgo.f136 {F : ZFt} (h : Fgo F) := (h.1.1.1.1.1.1.1.1.1.1.1.1.1.1.1.1.1.1.a).f136
/-- orders and shops, as the class holds them, as the reference -/
def OX (μ : ZM) (n : Nat) (q pa dy hr : Nat → Nat) (cs wk : Nat → Nat → Nat) : Prop := n ≤ 6 ∧ μ.1 153 0 = nI n ∧ (∀ i, i < n → μ.1 156 i = nI (q i)) ∧ Trn n q dy ∧ (∀ i, i < n → μ.1 154 i = nI (pa i)) ∧ (∀ i, i < n → μ.1 155 i = nI (dy i)) ∧ (∀ s, s < 4 → μ.1 136 s = nI (hr s)) ∧ (∀ s p, s < 4 → p < 8 → μ.1 (138 + s) p = nI (cs s p)) ∧ ∀ s p, s < 4 → p < 8 → μ.1 (143 + s) p = nI (wk s p)
def OM (ν : ZM) (n : Nat) (pa dy hr : Nat → Nat) (cs wk : Nat → Nat → Nat) : Prop := n ≤ 6 ∧ ν.1 0 26 = nI n ∧ (∀ i, i < n → ν.1 23 i = nI (pa i)) ∧ (∀ i, i < n → ν.1 24 i = nI (dy i)) ∧ (∀ s, s < 4 → ν.1 20 s = nI (hr s)) ∧ (∀ s p, s < 4 → p < 8 → ν.1 21 (8 * s + p) = nI (cs s p)) ∧ ∀ s p, s < 4 → p < 8 → ν.1 22 (8 * s + p) = nI (wk s p)
def OB (pa dy hr : Nat → Nat) (cs wk : Nat → Nat → Nat) : Prop := (∀ i, pa i < 8) ∧ (∀ i, dy i ≤ 60) ∧ (∀ s, 1 ≤ hr s ∧ hr s ≤ 24) ∧ (∀ s p, cs s p ≤ 999) ∧ ∀ s p, wk s p ≤ 99
theorem nI_lI {a b : Nat} (ha : a < 2 ^ 31) (hb : b < 2 ^ 31) : (nI a < nI b) = (a < b) := propext (nI_ltI ha hb)
theorem nI_qI {a b : Nat} (ha : a < 2 ^ 31) (hb : b < 2 ^ 31) : (nI a = nI b) = (a = b) := propext (nI_eq ha hb)
theorem nI_gI {a b : Nat} (ha : a < 2 ^ 31) (hb : b < 2 ^ 31) : (nI a ≤ nI b) = (a ≤ b) := propext (nI_leI ha hb)
theorem nI_dv {a b : Nat} (ha : a < 2 ^ 31) (hb : b < 2 ^ 31) (h0 : 0 < b) : nI a / nI b = nI (a / b) := by
  refine Int32.toInt_inj.mp ?_
  have hne : ¬ nI b = -1 := fun z => by
    have := congrArg Int32.toInt z
    rw [nI_toInt hb, show (-1 : Int32).toInt = -1 by decide] at this
    omega
  have hd : a / b < 2 ^ 31 := Nat.lt_of_le_of_lt (Nat.div_le_self a b) ha
  rw [Int32.toInt_div_of_ne_right _ _ hne, nI_toInt ha, nI_toInt hb, nI_toInt hd, Int.tdiv_eq_ediv_of_nonneg (by omega)]
  rfl
theorem nS_cut {f : Nat → Nat} {k n : Nat} (hk : k ≤ n) (h : ∀ j, k ≤ j → f j = 0) : nS n f = nS k f := by
  have : ∀ m, nS (k + m) f = nS k f := by
    intro m
    induction m with
    | zero => rfl
    | succ m ih => rw [show k + (m + 1) = k + m + 1 by omega, nS, ih, h _ (by omega), Nat.add_zero]
  have h2 := this (n - k)
  rwa [show k + (n - k) = n by omega] at h2
section KJ2
variable {F : ZFt} {d : Nat} {μ ν : ZM} {P : Option Value → ZM → Prop} {n k g : Nat} {q pa dy hr ch : Nat → Nat} {cs wk : Nat → Nat → Nat}
theorem hT_n (ho : OX μ n q pa dy hr cs wk) (hb : OB pa dy hr cs wk) (hg : g < 4) (hk : k < n) (hch : ∀ j, j ≤ k → μ.1 158 j = nI (ch j) ∧ ch j < 4) : ∀ i, i ≤ n → hTX μ (nI g) (nI k) i = nI (nS i (fun i' => if q i' < k + 1 ∧ ch (q i') = g then wk g (pa (q i')) else 0)) := by
  obtain ⟨h1, h2, h3, h4, h5, h6, h7, h8, h9⟩ := ho
  intro i hi
  unfold hTX
  refine sum_nS fun i' hi' => ?_
  have hq := h4.1 i' (by omega)
  have el := nI_lI (a := k) (b := q i') (by omega) (by omega)
  rw [h3 i' (by omega), nI_clamp (by omega), nI_clamp (by omega)]
  simp only [el]
  by_cases e : q i' < k + 1
  · obtain ⟨c1, c2⟩ := hch (q i') (by omega)
    have eq := nI_qI (a := ch (q i')) (b := g) (by omega) (by omega)
    rw [c1]
    simp only [eq]
    by_cases e2 : ch (q i') = g
    · rw [if_pos ⟨by omega, e2⟩, if_pos ⟨e, e2⟩, h5 _ hq, nI_clamp (by have := hb.1 (q i'); omega)]
      exact h9 g _ hg (hb.1 _)
    · rw [if_neg (fun z => e2 z.2), if_neg (fun z => e2 z.2)]
      rfl
  · rw [if_neg (fun z => z.1 (by omega)), if_neg (fun z => e z.1)]
    rfl
theorem hT_b (hb : OB pa dy hr cs wk) (i : Nat) : nS i (fun i' => if q i' < k + 1 ∧ ch (q i') = g then wk g (pa (q i')) else 0) ≤ i * 99 := nS_bd fun i' _ => by
  split
  · exact hb.2.2.2.2 _ _
  · omega
theorem inT_iff (ho : OX μ n q pa dy hr cs wk) (hb : OB pa dy hr cs wk) (hg : g < 4) (hk : k < n) (hch : ∀ j, j ≤ k → μ.1 158 j = nI (ch j) ∧ ch j < 4) : inTX μ (nI g) (nI k) = true ↔ ∀ o, o < k + 1 → ch o = g → nS (k + 1) (fun j => if ch j = g ∧ ahd dy j o = true then wk g (pa j) else 0) ≤ dy o * hr g := by
  have hT := hT_n ho hb hg hk hch
  obtain ⟨h1, h2, h3, h4, h5, h6, h7, h8, h9⟩ := ho
  have hsum : ∀ i, i < n → nS (i + 1) (fun i' => if q i' < k + 1 ∧ ch (q i') = g then wk g (pa (q i')) else 0) = nS (k + 1) (fun j => if ch j = g ∧ ahd dy j (q i) = true then wk g (pa j) else 0) := fun i hi => by
    rw [trn_sum h4 (fun j => if j < k + 1 ∧ ch j = g then wk g (pa j) else 0) hi, nS_cut (k := k + 1) (by omega) fun j hj => by
      split
      · rw [if_neg (fun z => by omega)]
      · rfl]
    refine nS_c fun j hj => ?_
    by_cases e1 : ahd dy j (q i) = true
    · by_cases e2 : ch j = g
      · rw [if_pos e1, if_pos ⟨hj, e2⟩, if_pos ⟨e2, e1⟩]
      · rw [if_pos e1, if_neg (fun z => e2 z.2), if_neg (fun z => e2 z.1)]
    · rw [if_neg e1, if_neg (fun z => e1 z.2)]
  have hat : ∀ i, i < n → q i < k + 1 → ((decide (nI k < μ.1 156 i) || (!decide (μ.1 158 (μ.1 156 i).toNatClampNeg = nI g) || !decide (μ.1 155 (μ.1 156 i).toNatClampNeg * μ.1 136 (nI g).toNatClampNeg < hTX μ (nI g) (nI k) (i + 1)))) = true ↔ (ch (q i) = g → nS (k + 1) (fun j => if ch j = g ∧ ahd dy j (q i) = true then wk g (pa j) else 0) ≤ dy (q i) * hr g)) := fun i hi e => by
    have hq := h4.1 i hi
    have b1 := hT_b (q := q) (k := k) (ch := ch) (g := g) hb (i + 1)
    have b2 := Nat.mul_le_mul (hb.2.1 (q i)) (hb.2.2.1 g).2
    obtain ⟨c1, c2⟩ := hch (q i) (by omega)
    rw [h3 i hi, nI_clamp (by omega), nI_clamp (by omega), c1, h6 _ hq, h7 g hg, nI_mul, hT (i + 1) (by omega)]
    rw [decide_eq_false (p := nI k < nI (q i)) (by rw [nI_lI (by omega) (by omega)]; omega), Bool.false_or, ← hsum i hi]
    simp only [nI_qI (show ch (q i) < 2 ^ 31 by omega) (show g < 2 ^ 31 by omega), nI_lI (show dy (q i) * hr g < 2 ^ 31 by omega) (show nS (i + 1) (fun i' => if q i' < k + 1 ∧ ch (q i') = g then wk g (pa (q i')) else 0) < 2 ^ 31 by omega), Bool.or_eq_true, Bool.not_eq_true', decide_eq_false_iff_not]
    constructor
    · rintro (a | a) z
      · exact absurd z a
      · omega
    · intro a
      by_cases z : ch (q i) = g
      · exact Or.inr (Nat.not_lt.mpr (a z))
      · exact Or.inl z
  unfold inTX
  rw [h2, nI_clamp (by omega)]
  unfold allB
  rw [List.all_eq_true]
  constructor
  · intro h o ho hc
    obtain ⟨i, hi, rfl⟩ := prm_at (trn_prm h4) (show o < n by omega)
    exact (hat i hi ho).mp (h i (List.mem_range.mpr hi)) hc
  · intro h i hi
    have hi := List.mem_range.mp hi
    by_cases e : q i < k + 1
    · exact (hat i hi e).mpr (h (q i) e)
    · have hq := h4.1 i hi
      rw [h3 i hi, decide_eq_true (p := nI k < nI (q i)) (by rw [nI_lI (by omega) (by omega)]; omega), Bool.true_or]
theorem k49 (hgo : Fgo F) (ho : OX μ n q pa dy hr cs wk) (hb : OB pa dy hr cs wk) (hg : g < 4) (hk : k < n) (hch : ∀ j, j ≤ k → μ.1 158 j = nI (ch j) ∧ ch j < 4) (h : P (some (.int (zi (inTX μ (nI g) (nI k))))) μ) : KK Zx F (d + 1) 49 [.ref 153, .int (nI g), .int (nI k), .ref 135] μ P := by
  have hT := hT_n ho hb hg hk hch
  obtain ⟨h1, h2, h3, h4, h5, h6, h7, h8, h9⟩ := id ho
  have ein : inTX μ (nI g) (nI k) = allB n (fun i => decide (nI k < μ.1 156 i) || (!decide (μ.1 158 (μ.1 156 i).toNatClampNeg = nI g) || !decide (μ.1 155 (μ.1 156 i).toNatClampNeg * μ.1 136 (nI g).toNatClampNeg < hTX μ (nI g) (nI k) (i + 1)))) := by
    unfold inTX
    rw [h2, nI_clamp (by omega)]
  rw [ein] at h
  refine KK_in be_49 rfl (Nat.le_of_ble_eq_true rfl) ?_; simp (disch := first | omega | (simp (disch := omega) only [forall_eq', Value.category, or_true, true_or, Option.isSome_some, Option.getD_some, true_and, and_true, and_self, forall_const, reduceCtorEq, Bool.false_eq_true, ite_true, ite_false, reduceIte, Nat.reduceLT, Nat.reduceLeDiff, Nat.reduceEqDiff, Nat.reduceAdd, Nat.reduceMul, decide_true, decide_false, Bool.true_and, Bool.and_true, Bool.false_and, Bool.and_false, Bool.or_false, Bool.false_or, not_true_eq_false, not_false_eq_true, Classical.not_not, false_implies, implies_true, decide_eq_true_eq, decide_eq_false_iff_not, Bool.not_eq_true, Bool.not_eq_false, Bool.not_eq_eq_eq_not, Bool.and_eq_true, Bool.or_eq_true, Bool.not_true, Bool.not_false, exists_eq_left, Option.some.injEq, Value.int.injEq, Value.long.injEq, Value.ref.injEq, zofN, znr0, zvpN, nI_clamp, nI_ltI, nI_leI, nI_eq, nI_a1, zN_lt, zN_le, zN_gt, zN_ge, zN_eq, zN_m1, Nat.zero_le, zLE, zi_eq0, zi01b, zi01c, zlast])) only [be_49, sSeq, sIf, sSkip, sDecI, sDecL, sDecR, sSetI, sSetL, sInc, sRetI, sRetZ, sRetL, sRetR, sRetV, sScope, sPut, sPutL, sUpd, sSt, sStL, sStU, sStUL, sCpy, sCpyL, sCS, sCV, sSw, zsw, sBrk, xP, xCS, xCV, xNz, xI, xAnd, xOr, xNot, xT, xB, xInc, xPre, xIncL, xEq, eK, eV, eW, eR, eB, eU, eD, eT, eI, eAnd, eOr, eNot, eF, eFL, eFR, eA, eAL, eAR, eN, eCS, eCV, aN, aI, aL, aR, zen, zli, zlj, zlr, zob, rdI, rdL, rdR, zfk, List.cons_append, List.nil_append, List.set_cons_zero, List.set_cons_succ, List.take_succ_cons, List.take_zero, List.length_cons, List.length_nil, List.getElem?_cons_zero, List.getElem?_cons_succ, forall_eq', Value.category, or_true, true_or, Option.isSome_some, Option.getD_some, true_and, and_true, and_self, forall_const, reduceCtorEq, Bool.false_eq_true, ite_true, ite_false, reduceIte, Nat.reduceLT, Nat.reduceLeDiff, Nat.reduceEqDiff, Nat.reduceAdd, Nat.reduceMul, decide_true, decide_false, Bool.true_and, Bool.and_true, Bool.false_and, Bool.and_false, Bool.or_false, Bool.false_or, not_true_eq_false, not_false_eq_true, Classical.not_not, false_implies, implies_true, decide_eq_true_eq, decide_eq_false_iff_not, Bool.not_eq_true, Bool.not_eq_false, Bool.not_eq_eq_eq_not, Bool.and_eq_true, Bool.or_eq_true, Bool.not_true, Bool.not_false, exists_eq_left, Option.some.injEq, Value.int.injEq, Value.long.injEq, Value.ref.injEq, zFx0, zFx1, zFx2, zFx3, zFx4, zFx5, zFx6, zFx7, zFx8, zFx9, zFx10, zFx11, zFx12, zFx13, zFx14, zFm0, zFm1, zFm2, zFm3, zFm4, zofN, znr0, zvpN, nI_clamp, nI_ltI, nI_leI, nI_eq, nI_a1, zN_lt, zN_le, zN_gt, zN_ge, zN_eq, zN_m1, Nat.zero_le, zLE, zi_eq0, zi01b, zi01c, zlast, hgo.f49, hgo.f50, hgo.f51, hgo.f52, hgo.f195, hgo.f197, hgo.f160, hgo.f24, hgo.f25, hgo.f9, hgo.f18, hgo.f19, hgo.f56, hgo.f57, hgo.f134, hgo.f133, hgo.f20, hgo.f10, hgo.f88, hgo.f45, hgo.f78, hgo.f53, hgo.f32, hgo.f74, hgo.f61, hgo.f34, hgo.f127, hgo.f211, hgo.f73, hgo.f72, hgo.f209, hgo.f216, hgo.f29, hgo.f31, hgo.f30, hgo.f28, hgo.f27, hgo.f204, hgo.f205, hgo.f76, hgo.f77, hgo.f217, hgo.f187, hgo.f43, hgo.f42, hgo.f44, hgo.f186, hgo.f188, hgo.f35, hgo.f36, hgo.f37, hgo.f178, hgo.f180, hgo.f1, hgo.f2, hgo.f3, hgo.f4, hgo.f5, hgo.f153, hgo.f154, hgo.f155, hgo.f156, hgo.f157, hgo.f164, hgo.f165, hgo.f166, hgo.f81, hgo.f84, hgo.f85, hgo.f86, hgo.f87, hgo.f137, hgo.f175, hgo.f174, hgo.f191, hgo.f11, hgo.f12, hgo.f13, hgo.f14, hgo.f15, hgo.f16, hgo.f17, hgo.f80, hgo.f138, hgo.f141, hgo.f143, hgo.f145, hgo.f129, hgo.f130, hgo.f132, hgo.f135, hgo.f136, k129, k130, k132, k135, k11, k12, zset_self, k136 hgo.a, k143 hgo.dr, k174 hgo.dr, k191 hgo.dr]
  refine forT_fr 0 n (fun i σ => σ = ([.ref 153, .int (nI g), .int (nI k), .ref 135, .int (hTX μ (nI g) (nI k) i), .int (nI i)], μ) ∧ ∀ j, j < i → (decide (nI k < μ.1 156 j) || (!decide (μ.1 158 (μ.1 156 j).toNatClampNeg = nI g) || !decide (μ.1 155 (μ.1 156 j).toNatClampNeg * μ.1 136 (nI g).toNatClampNeg < hTX μ (nI g) (nI k) (j + 1)))) = true) (Nat.zero_le n) ⟨rfl, fun j hj => absurd hj (by omega)⟩ ?_
  rintro i σ Nx hNx _ hi ⟨rfl, hall⟩
  by_cases hin : i < n
  · have hq := h4.1 i hin
    have e156 := h3 i hin
    have i6 : i < 6 := by omega
    have q6 : q i < 6 := by omega
    have hs1 : hTX μ (nI g) (nI k) (i + 1) = hTX μ (nI g) (nI k) i + if ¬ nI k < μ.1 156 i ∧ μ.1 158 (μ.1 156 i).toNatClampNeg = nI g then μ.1 (143 + (nI g).toNatClampNeg) (μ.1 154 (μ.1 156 i).toNatClampNeg).toNatClampNeg else 0 := sumS_s _ _
    have hNN := fun (z : (decide (nI k < μ.1 156 i) || (!decide (μ.1 158 (μ.1 156 i).toNatClampNeg = nI g) || !decide (μ.1 155 (μ.1 156 i).toNatClampNeg * μ.1 136 (nI g).toNatClampNeg < hTX μ (nI g) (nI k) (i + 1)))) = true) => hNx _ hin ⟨rfl, fun j hj => by
      by_cases e : j = i
      · rw [e]; exact z
      · exact hall j (by omega)⟩
    have el := nI_lI (a := k) (b := q i) (by omega) (by omega)
    rw [e156, nI_clamp (show q i < 2 ^ 31 by omega), nI_clamp (show g < 2 ^ 31 by omega)] at hs1 hNN
    simp only [el] at hs1 hNN
    by_cases c1 : k < q i
    · rw [if_neg (fun z => z.1 c1), Int32.add_zero] at hs1
      rw [hs1, decide_eq_true c1, Bool.true_or] at hNN
      have hN := hNN rfl
      simp (disch := first | omega | (simp (disch := omega) only [forall_eq', Value.category, or_true, true_or, Option.isSome_some, Option.getD_some, true_and, and_true, and_self, forall_const, reduceCtorEq, Bool.false_eq_true, ite_true, ite_false, reduceIte, Nat.reduceLT, Nat.reduceLeDiff, Nat.reduceEqDiff, Nat.reduceAdd, Nat.reduceMul, decide_true, decide_false, Bool.true_and, Bool.and_true, Bool.false_and, Bool.and_false, Bool.or_false, Bool.false_or, not_true_eq_false, not_false_eq_true, Classical.not_not, false_implies, implies_true, decide_eq_true_eq, decide_eq_false_iff_not, Bool.not_eq_true, Bool.not_eq_false, Bool.not_eq_eq_eq_not, Bool.and_eq_true, Bool.or_eq_true, Bool.not_true, Bool.not_false, exists_eq_left, Option.some.injEq, Value.int.injEq, Value.long.injEq, Value.ref.injEq, zofN, znr0, zvpN, nI_clamp, nI_ltI, nI_leI, nI_eq, nI_a1, zN_lt, zN_le, zN_gt, zN_ge, zN_eq, zN_m1, Nat.zero_le, zLE, zi_eq0, zi01b, zi01c, zlast, h2, hin, i6, q6, e156, c1])) only [sSeq, sIf, sSkip, sDecI, sDecL, sDecR, sSetI, sSetL, sInc, sRetI, sRetZ, sRetL, sRetR, sRetV, sScope, sPut, sPutL, sUpd, sSt, sStL, sStU, sStUL, sCpy, sCpyL, sCS, sCV, sSw, zsw, sBrk, xP, xCS, xCV, xNz, xI, xAnd, xOr, xNot, xT, xB, xInc, xPre, xIncL, xEq, eK, eV, eW, eR, eB, eU, eD, eT, eI, eAnd, eOr, eNot, eF, eFL, eFR, eA, eAL, eAR, eN, eCS, eCV, aN, aI, aL, aR, zen, zli, zlj, zlr, zob, rdI, rdL, rdR, zfk, List.cons_append, List.nil_append, List.set_cons_zero, List.set_cons_succ, List.take_succ_cons, List.take_zero, List.length_cons, List.length_nil, List.getElem?_cons_zero, List.getElem?_cons_succ, forall_eq', Value.category, or_true, true_or, Option.isSome_some, Option.getD_some, true_and, and_true, and_self, forall_const, reduceCtorEq, Bool.false_eq_true, ite_true, ite_false, reduceIte, Nat.reduceLT, Nat.reduceLeDiff, Nat.reduceEqDiff, Nat.reduceAdd, Nat.reduceMul, decide_true, decide_false, Bool.true_and, Bool.and_true, Bool.false_and, Bool.and_false, Bool.or_false, Bool.false_or, not_true_eq_false, not_false_eq_true, Classical.not_not, false_implies, implies_true, decide_eq_true_eq, decide_eq_false_iff_not, Bool.not_eq_true, Bool.not_eq_false, Bool.not_eq_eq_eq_not, Bool.and_eq_true, Bool.or_eq_true, Bool.not_true, Bool.not_false, exists_eq_left, Option.some.injEq, Value.int.injEq, Value.long.injEq, Value.ref.injEq, zFx0, zFx1, zFx2, zFx3, zFx4, zFx5, zFx6, zFx7, zFx8, zFx9, zFx10, zFx11, zFx12, zFx13, zFx14, zFm0, zFm1, zFm2, zFm3, zFm4, zofN, znr0, zvpN, nI_clamp, nI_ltI, nI_leI, nI_eq, nI_a1, zN_lt, zN_le, zN_gt, zN_ge, zN_eq, zN_m1, Nat.zero_le, zLE, zi_eq0, zi01b, zi01c, zlast, hgo.f49, hgo.f50, hgo.f51, hgo.f52, hgo.f195, hgo.f197, hgo.f160, hgo.f24, hgo.f25, hgo.f9, hgo.f18, hgo.f19, hgo.f56, hgo.f57, hgo.f134, hgo.f133, hgo.f20, hgo.f10, hgo.f88, hgo.f45, hgo.f78, hgo.f53, hgo.f32, hgo.f74, hgo.f61, hgo.f34, hgo.f127, hgo.f211, hgo.f73, hgo.f72, hgo.f209, hgo.f216, hgo.f29, hgo.f31, hgo.f30, hgo.f28, hgo.f27, hgo.f204, hgo.f205, hgo.f76, hgo.f77, hgo.f217, hgo.f187, hgo.f43, hgo.f42, hgo.f44, hgo.f186, hgo.f188, hgo.f35, hgo.f36, hgo.f37, hgo.f178, hgo.f180, hgo.f1, hgo.f2, hgo.f3, hgo.f4, hgo.f5, hgo.f153, hgo.f154, hgo.f155, hgo.f156, hgo.f157, hgo.f164, hgo.f165, hgo.f166, hgo.f81, hgo.f84, hgo.f85, hgo.f86, hgo.f87, hgo.f137, hgo.f175, hgo.f174, hgo.f191, hgo.f11, hgo.f12, hgo.f13, hgo.f14, hgo.f15, hgo.f16, hgo.f17, hgo.f80, hgo.f138, hgo.f141, hgo.f143, hgo.f145, hgo.f129, hgo.f130, hgo.f132, hgo.f135, hgo.f136, k129, k130, k132, k135, k11, k12, zset_self, k136 hgo.a, k143 hgo.dr, k174 hgo.dr, k191 hgo.dr, h2, hin, i6, q6, e156, c1]
      exact hN
    · obtain ⟨c2, c3⟩ := hch (q i) (by omega)
      have eq := nI_qI (a := ch (q i)) (b := g) (by omega) (by omega)
      rw [c2] at hs1 hNN
      simp only [eq] at hs1 hNN
      rw [decide_eq_false c1, Bool.false_or] at hNN
      by_cases c4 : ch (q i) = g
      · have e154 := h5 _ hq
        have p8 := hb.1 (q i)
        rw [if_pos ⟨c1, c4⟩, e154, nI_clamp (by omega)] at hs1
        have e143 := zIx142 hg
        have e9 := h9 g (pa (q i)) hg p8
        by_cases c5 : μ.1 155 (q i) * μ.1 136 g < hTX μ (nI g) (nI k) (i + 1)
        · have hf : (decide (nI k < μ.1 156 i) || (!decide (μ.1 158 (μ.1 156 i).toNatClampNeg = nI g) || !decide (μ.1 155 (μ.1 156 i).toNatClampNeg * μ.1 136 (nI g).toNatClampNeg < hTX μ (nI g) (nI k) (i + 1)))) = false := by
            rw [e156, nI_clamp (by omega), nI_clamp (by omega), c2, decide_eq_true c5]
            simp only [el, eq]
            rw [decide_eq_false c1, decide_eq_true c4]
            rfl
          rw [allB_f hin hf] at h
          rw [hs1] at c5
          simp (disch := first | omega | (simp (disch := omega) only [forall_eq', Value.category, or_true, true_or, Option.isSome_some, Option.getD_some, true_and, and_true, and_self, forall_const, reduceCtorEq, Bool.false_eq_true, ite_true, ite_false, reduceIte, Nat.reduceLT, Nat.reduceLeDiff, Nat.reduceEqDiff, Nat.reduceAdd, Nat.reduceMul, decide_true, decide_false, Bool.true_and, Bool.and_true, Bool.false_and, Bool.and_false, Bool.or_false, Bool.false_or, not_true_eq_false, not_false_eq_true, Classical.not_not, false_implies, implies_true, decide_eq_true_eq, decide_eq_false_iff_not, Bool.not_eq_true, Bool.not_eq_false, Bool.not_eq_eq_eq_not, Bool.and_eq_true, Bool.or_eq_true, Bool.not_true, Bool.not_false, exists_eq_left, Option.some.injEq, Value.int.injEq, Value.long.injEq, Value.ref.injEq, zofN, znr0, zvpN, nI_clamp, nI_ltI, nI_leI, nI_eq, nI_a1, zN_lt, zN_le, zN_gt, zN_ge, zN_eq, zN_m1, Nat.zero_le, zLE, zi_eq0, zi01b, zi01c, zlast, h2, hin, i6, q6, e156, c1, c2, c4, e154, p8, zIx142 hg, hg, c5])) only [sSeq, sIf, sSkip, sDecI, sDecL, sDecR, sSetI, sSetL, sInc, sRetI, sRetZ, sRetL, sRetR, sRetV, sScope, sPut, sPutL, sUpd, sSt, sStL, sStU, sStUL, sCpy, sCpyL, sCS, sCV, sSw, zsw, sBrk, xP, xCS, xCV, xNz, xI, xAnd, xOr, xNot, xT, xB, xInc, xPre, xIncL, xEq, eK, eV, eW, eR, eB, eU, eD, eT, eI, eAnd, eOr, eNot, eF, eFL, eFR, eA, eAL, eAR, eN, eCS, eCV, aN, aI, aL, aR, zen, zli, zlj, zlr, zob, rdI, rdL, rdR, zfk, List.cons_append, List.nil_append, List.set_cons_zero, List.set_cons_succ, List.take_succ_cons, List.take_zero, List.length_cons, List.length_nil, List.getElem?_cons_zero, List.getElem?_cons_succ, forall_eq', Value.category, or_true, true_or, Option.isSome_some, Option.getD_some, true_and, and_true, and_self, forall_const, reduceCtorEq, Bool.false_eq_true, ite_true, ite_false, reduceIte, Nat.reduceLT, Nat.reduceLeDiff, Nat.reduceEqDiff, Nat.reduceAdd, Nat.reduceMul, decide_true, decide_false, Bool.true_and, Bool.and_true, Bool.false_and, Bool.and_false, Bool.or_false, Bool.false_or, not_true_eq_false, not_false_eq_true, Classical.not_not, false_implies, implies_true, decide_eq_true_eq, decide_eq_false_iff_not, Bool.not_eq_true, Bool.not_eq_false, Bool.not_eq_eq_eq_not, Bool.and_eq_true, Bool.or_eq_true, Bool.not_true, Bool.not_false, exists_eq_left, Option.some.injEq, Value.int.injEq, Value.long.injEq, Value.ref.injEq, zFx0, zFx1, zFx2, zFx3, zFx4, zFx5, zFx6, zFx7, zFx8, zFx9, zFx10, zFx11, zFx12, zFx13, zFx14, zFm0, zFm1, zFm2, zFm3, zFm4, zofN, znr0, zvpN, nI_clamp, nI_ltI, nI_leI, nI_eq, nI_a1, zN_lt, zN_le, zN_gt, zN_ge, zN_eq, zN_m1, Nat.zero_le, zLE, zi_eq0, zi01b, zi01c, zlast, hgo.f49, hgo.f50, hgo.f51, hgo.f52, hgo.f195, hgo.f197, hgo.f160, hgo.f24, hgo.f25, hgo.f9, hgo.f18, hgo.f19, hgo.f56, hgo.f57, hgo.f134, hgo.f133, hgo.f20, hgo.f10, hgo.f88, hgo.f45, hgo.f78, hgo.f53, hgo.f32, hgo.f74, hgo.f61, hgo.f34, hgo.f127, hgo.f211, hgo.f73, hgo.f72, hgo.f209, hgo.f216, hgo.f29, hgo.f31, hgo.f30, hgo.f28, hgo.f27, hgo.f204, hgo.f205, hgo.f76, hgo.f77, hgo.f217, hgo.f187, hgo.f43, hgo.f42, hgo.f44, hgo.f186, hgo.f188, hgo.f35, hgo.f36, hgo.f37, hgo.f178, hgo.f180, hgo.f1, hgo.f2, hgo.f3, hgo.f4, hgo.f5, hgo.f153, hgo.f154, hgo.f155, hgo.f156, hgo.f157, hgo.f164, hgo.f165, hgo.f166, hgo.f81, hgo.f84, hgo.f85, hgo.f86, hgo.f87, hgo.f137, hgo.f175, hgo.f174, hgo.f191, hgo.f11, hgo.f12, hgo.f13, hgo.f14, hgo.f15, hgo.f16, hgo.f17, hgo.f80, hgo.f138, hgo.f141, hgo.f143, hgo.f145, hgo.f129, hgo.f130, hgo.f132, hgo.f135, hgo.f136, k129, k130, k132, k135, k11, k12, zset_self, k136 hgo.a, k143 hgo.dr, k174 hgo.dr, k191 hgo.dr, h2, hin, i6, q6, e156, c1, c2, c4, e154, p8, zIx142 hg, hg, c5]
          exact h
        · rw [decide_eq_false c5, Bool.not_false, Bool.or_true] at hNN
          have hN := hNN rfl
          rw [hs1] at c5 hN
          simp (disch := first | omega | (simp (disch := omega) only [forall_eq', Value.category, or_true, true_or, Option.isSome_some, Option.getD_some, true_and, and_true, and_self, forall_const, reduceCtorEq, Bool.false_eq_true, ite_true, ite_false, reduceIte, Nat.reduceLT, Nat.reduceLeDiff, Nat.reduceEqDiff, Nat.reduceAdd, Nat.reduceMul, decide_true, decide_false, Bool.true_and, Bool.and_true, Bool.false_and, Bool.and_false, Bool.or_false, Bool.false_or, not_true_eq_false, not_false_eq_true, Classical.not_not, false_implies, implies_true, decide_eq_true_eq, decide_eq_false_iff_not, Bool.not_eq_true, Bool.not_eq_false, Bool.not_eq_eq_eq_not, Bool.and_eq_true, Bool.or_eq_true, Bool.not_true, Bool.not_false, exists_eq_left, Option.some.injEq, Value.int.injEq, Value.long.injEq, Value.ref.injEq, zofN, znr0, zvpN, nI_clamp, nI_ltI, nI_leI, nI_eq, nI_a1, zN_lt, zN_le, zN_gt, zN_ge, zN_eq, zN_m1, Nat.zero_le, zLE, zi_eq0, zi01b, zi01c, zlast, h2, hin, i6, q6, e156, c1, c2, c4, e154, p8, zIx142 hg, hg, c5])) only [sSeq, sIf, sSkip, sDecI, sDecL, sDecR, sSetI, sSetL, sInc, sRetI, sRetZ, sRetL, sRetR, sRetV, sScope, sPut, sPutL, sUpd, sSt, sStL, sStU, sStUL, sCpy, sCpyL, sCS, sCV, sSw, zsw, sBrk, xP, xCS, xCV, xNz, xI, xAnd, xOr, xNot, xT, xB, xInc, xPre, xIncL, xEq, eK, eV, eW, eR, eB, eU, eD, eT, eI, eAnd, eOr, eNot, eF, eFL, eFR, eA, eAL, eAR, eN, eCS, eCV, aN, aI, aL, aR, zen, zli, zlj, zlr, zob, rdI, rdL, rdR, zfk, List.cons_append, List.nil_append, List.set_cons_zero, List.set_cons_succ, List.take_succ_cons, List.take_zero, List.length_cons, List.length_nil, List.getElem?_cons_zero, List.getElem?_cons_succ, forall_eq', Value.category, or_true, true_or, Option.isSome_some, Option.getD_some, true_and, and_true, and_self, forall_const, reduceCtorEq, Bool.false_eq_true, ite_true, ite_false, reduceIte, Nat.reduceLT, Nat.reduceLeDiff, Nat.reduceEqDiff, Nat.reduceAdd, Nat.reduceMul, decide_true, decide_false, Bool.true_and, Bool.and_true, Bool.false_and, Bool.and_false, Bool.or_false, Bool.false_or, not_true_eq_false, not_false_eq_true, Classical.not_not, false_implies, implies_true, decide_eq_true_eq, decide_eq_false_iff_not, Bool.not_eq_true, Bool.not_eq_false, Bool.not_eq_eq_eq_not, Bool.and_eq_true, Bool.or_eq_true, Bool.not_true, Bool.not_false, exists_eq_left, Option.some.injEq, Value.int.injEq, Value.long.injEq, Value.ref.injEq, zFx0, zFx1, zFx2, zFx3, zFx4, zFx5, zFx6, zFx7, zFx8, zFx9, zFx10, zFx11, zFx12, zFx13, zFx14, zFm0, zFm1, zFm2, zFm3, zFm4, zofN, znr0, zvpN, nI_clamp, nI_ltI, nI_leI, nI_eq, nI_a1, zN_lt, zN_le, zN_gt, zN_ge, zN_eq, zN_m1, Nat.zero_le, zLE, zi_eq0, zi01b, zi01c, zlast, hgo.f49, hgo.f50, hgo.f51, hgo.f52, hgo.f195, hgo.f197, hgo.f160, hgo.f24, hgo.f25, hgo.f9, hgo.f18, hgo.f19, hgo.f56, hgo.f57, hgo.f134, hgo.f133, hgo.f20, hgo.f10, hgo.f88, hgo.f45, hgo.f78, hgo.f53, hgo.f32, hgo.f74, hgo.f61, hgo.f34, hgo.f127, hgo.f211, hgo.f73, hgo.f72, hgo.f209, hgo.f216, hgo.f29, hgo.f31, hgo.f30, hgo.f28, hgo.f27, hgo.f204, hgo.f205, hgo.f76, hgo.f77, hgo.f217, hgo.f187, hgo.f43, hgo.f42, hgo.f44, hgo.f186, hgo.f188, hgo.f35, hgo.f36, hgo.f37, hgo.f178, hgo.f180, hgo.f1, hgo.f2, hgo.f3, hgo.f4, hgo.f5, hgo.f153, hgo.f154, hgo.f155, hgo.f156, hgo.f157, hgo.f164, hgo.f165, hgo.f166, hgo.f81, hgo.f84, hgo.f85, hgo.f86, hgo.f87, hgo.f137, hgo.f175, hgo.f174, hgo.f191, hgo.f11, hgo.f12, hgo.f13, hgo.f14, hgo.f15, hgo.f16, hgo.f17, hgo.f80, hgo.f138, hgo.f141, hgo.f143, hgo.f145, hgo.f129, hgo.f130, hgo.f132, hgo.f135, hgo.f136, k129, k130, k132, k135, k11, k12, zset_self, k136 hgo.a, k143 hgo.dr, k174 hgo.dr, k191 hgo.dr, h2, hin, i6, q6, e156, c1, c2, c4, e154, p8, zIx142 hg, hg, c5]
          exact hN
      · rw [if_neg (fun z => c4 z.2), Int32.add_zero] at hs1
        rw [hs1, decide_eq_false c4, Bool.not_false, Bool.true_or] at hNN
        have hN := hNN rfl
        simp (disch := first | omega | (simp (disch := omega) only [forall_eq', Value.category, or_true, true_or, Option.isSome_some, Option.getD_some, true_and, and_true, and_self, forall_const, reduceCtorEq, Bool.false_eq_true, ite_true, ite_false, reduceIte, Nat.reduceLT, Nat.reduceLeDiff, Nat.reduceEqDiff, Nat.reduceAdd, Nat.reduceMul, decide_true, decide_false, Bool.true_and, Bool.and_true, Bool.false_and, Bool.and_false, Bool.or_false, Bool.false_or, not_true_eq_false, not_false_eq_true, Classical.not_not, false_implies, implies_true, decide_eq_true_eq, decide_eq_false_iff_not, Bool.not_eq_true, Bool.not_eq_false, Bool.not_eq_eq_eq_not, Bool.and_eq_true, Bool.or_eq_true, Bool.not_true, Bool.not_false, exists_eq_left, Option.some.injEq, Value.int.injEq, Value.long.injEq, Value.ref.injEq, zofN, znr0, zvpN, nI_clamp, nI_ltI, nI_leI, nI_eq, nI_a1, zN_lt, zN_le, zN_gt, zN_ge, zN_eq, zN_m1, Nat.zero_le, zLE, zi_eq0, zi01b, zi01c, zlast, h2, hin, i6, q6, e156, c1, c2, c4])) only [sSeq, sIf, sSkip, sDecI, sDecL, sDecR, sSetI, sSetL, sInc, sRetI, sRetZ, sRetL, sRetR, sRetV, sScope, sPut, sPutL, sUpd, sSt, sStL, sStU, sStUL, sCpy, sCpyL, sCS, sCV, sSw, zsw, sBrk, xP, xCS, xCV, xNz, xI, xAnd, xOr, xNot, xT, xB, xInc, xPre, xIncL, xEq, eK, eV, eW, eR, eB, eU, eD, eT, eI, eAnd, eOr, eNot, eF, eFL, eFR, eA, eAL, eAR, eN, eCS, eCV, aN, aI, aL, aR, zen, zli, zlj, zlr, zob, rdI, rdL, rdR, zfk, List.cons_append, List.nil_append, List.set_cons_zero, List.set_cons_succ, List.take_succ_cons, List.take_zero, List.length_cons, List.length_nil, List.getElem?_cons_zero, List.getElem?_cons_succ, forall_eq', Value.category, or_true, true_or, Option.isSome_some, Option.getD_some, true_and, and_true, and_self, forall_const, reduceCtorEq, Bool.false_eq_true, ite_true, ite_false, reduceIte, Nat.reduceLT, Nat.reduceLeDiff, Nat.reduceEqDiff, Nat.reduceAdd, Nat.reduceMul, decide_true, decide_false, Bool.true_and, Bool.and_true, Bool.false_and, Bool.and_false, Bool.or_false, Bool.false_or, not_true_eq_false, not_false_eq_true, Classical.not_not, false_implies, implies_true, decide_eq_true_eq, decide_eq_false_iff_not, Bool.not_eq_true, Bool.not_eq_false, Bool.not_eq_eq_eq_not, Bool.and_eq_true, Bool.or_eq_true, Bool.not_true, Bool.not_false, exists_eq_left, Option.some.injEq, Value.int.injEq, Value.long.injEq, Value.ref.injEq, zFx0, zFx1, zFx2, zFx3, zFx4, zFx5, zFx6, zFx7, zFx8, zFx9, zFx10, zFx11, zFx12, zFx13, zFx14, zFm0, zFm1, zFm2, zFm3, zFm4, zofN, znr0, zvpN, nI_clamp, nI_ltI, nI_leI, nI_eq, nI_a1, zN_lt, zN_le, zN_gt, zN_ge, zN_eq, zN_m1, Nat.zero_le, zLE, zi_eq0, zi01b, zi01c, zlast, hgo.f49, hgo.f50, hgo.f51, hgo.f52, hgo.f195, hgo.f197, hgo.f160, hgo.f24, hgo.f25, hgo.f9, hgo.f18, hgo.f19, hgo.f56, hgo.f57, hgo.f134, hgo.f133, hgo.f20, hgo.f10, hgo.f88, hgo.f45, hgo.f78, hgo.f53, hgo.f32, hgo.f74, hgo.f61, hgo.f34, hgo.f127, hgo.f211, hgo.f73, hgo.f72, hgo.f209, hgo.f216, hgo.f29, hgo.f31, hgo.f30, hgo.f28, hgo.f27, hgo.f204, hgo.f205, hgo.f76, hgo.f77, hgo.f217, hgo.f187, hgo.f43, hgo.f42, hgo.f44, hgo.f186, hgo.f188, hgo.f35, hgo.f36, hgo.f37, hgo.f178, hgo.f180, hgo.f1, hgo.f2, hgo.f3, hgo.f4, hgo.f5, hgo.f153, hgo.f154, hgo.f155, hgo.f156, hgo.f157, hgo.f164, hgo.f165, hgo.f166, hgo.f81, hgo.f84, hgo.f85, hgo.f86, hgo.f87, hgo.f137, hgo.f175, hgo.f174, hgo.f191, hgo.f11, hgo.f12, hgo.f13, hgo.f14, hgo.f15, hgo.f16, hgo.f17, hgo.f80, hgo.f138, hgo.f141, hgo.f143, hgo.f145, hgo.f129, hgo.f130, hgo.f132, hgo.f135, hgo.f136, k129, k130, k132, k135, k11, k12, zset_self, k136 hgo.a, k143 hgo.dr, k174 hgo.dr, k191 hgo.dr, h2, hin, i6, q6, e156, c1, c2, c4]
        exact hN
  · rw [show i = n by omega] at hall ⊢
    rw [allB_t hall] at h
    simp (disch := first | omega | (simp (disch := omega) only [forall_eq', Value.category, or_true, true_or, Option.isSome_some, Option.getD_some, true_and, and_true, and_self, forall_const, reduceCtorEq, Bool.false_eq_true, ite_true, ite_false, reduceIte, Nat.reduceLT, Nat.reduceLeDiff, Nat.reduceEqDiff, Nat.reduceAdd, Nat.reduceMul, decide_true, decide_false, Bool.true_and, Bool.and_true, Bool.false_and, Bool.and_false, Bool.or_false, Bool.false_or, not_true_eq_false, not_false_eq_true, Classical.not_not, false_implies, implies_true, decide_eq_true_eq, decide_eq_false_iff_not, Bool.not_eq_true, Bool.not_eq_false, Bool.not_eq_eq_eq_not, Bool.and_eq_true, Bool.or_eq_true, Bool.not_true, Bool.not_false, exists_eq_left, Option.some.injEq, Value.int.injEq, Value.long.injEq, Value.ref.injEq, zofN, znr0, zvpN, nI_clamp, nI_ltI, nI_leI, nI_eq, nI_a1, zN_lt, zN_le, zN_gt, zN_ge, zN_eq, zN_m1, Nat.zero_le, zLE, zi_eq0, zi01b, zi01c, zlast, h2, Nat.lt_irrefl])) only [sSeq, sIf, sSkip, sDecI, sDecL, sDecR, sSetI, sSetL, sInc, sRetI, sRetZ, sRetL, sRetR, sRetV, sScope, sPut, sPutL, sUpd, sSt, sStL, sStU, sStUL, sCpy, sCpyL, sCS, sCV, sSw, zsw, sBrk, xP, xCS, xCV, xNz, xI, xAnd, xOr, xNot, xT, xB, xInc, xPre, xIncL, xEq, eK, eV, eW, eR, eB, eU, eD, eT, eI, eAnd, eOr, eNot, eF, eFL, eFR, eA, eAL, eAR, eN, eCS, eCV, aN, aI, aL, aR, zen, zli, zlj, zlr, zob, rdI, rdL, rdR, zfk, List.cons_append, List.nil_append, List.set_cons_zero, List.set_cons_succ, List.take_succ_cons, List.take_zero, List.length_cons, List.length_nil, List.getElem?_cons_zero, List.getElem?_cons_succ, forall_eq', Value.category, or_true, true_or, Option.isSome_some, Option.getD_some, true_and, and_true, and_self, forall_const, reduceCtorEq, Bool.false_eq_true, ite_true, ite_false, reduceIte, Nat.reduceLT, Nat.reduceLeDiff, Nat.reduceEqDiff, Nat.reduceAdd, Nat.reduceMul, decide_true, decide_false, Bool.true_and, Bool.and_true, Bool.false_and, Bool.and_false, Bool.or_false, Bool.false_or, not_true_eq_false, not_false_eq_true, Classical.not_not, false_implies, implies_true, decide_eq_true_eq, decide_eq_false_iff_not, Bool.not_eq_true, Bool.not_eq_false, Bool.not_eq_eq_eq_not, Bool.and_eq_true, Bool.or_eq_true, Bool.not_true, Bool.not_false, exists_eq_left, Option.some.injEq, Value.int.injEq, Value.long.injEq, Value.ref.injEq, zFx0, zFx1, zFx2, zFx3, zFx4, zFx5, zFx6, zFx7, zFx8, zFx9, zFx10, zFx11, zFx12, zFx13, zFx14, zFm0, zFm1, zFm2, zFm3, zFm4, zofN, znr0, zvpN, nI_clamp, nI_ltI, nI_leI, nI_eq, nI_a1, zN_lt, zN_le, zN_gt, zN_ge, zN_eq, zN_m1, Nat.zero_le, zLE, zi_eq0, zi01b, zi01c, zlast, hgo.f49, hgo.f50, hgo.f51, hgo.f52, hgo.f195, hgo.f197, hgo.f160, hgo.f24, hgo.f25, hgo.f9, hgo.f18, hgo.f19, hgo.f56, hgo.f57, hgo.f134, hgo.f133, hgo.f20, hgo.f10, hgo.f88, hgo.f45, hgo.f78, hgo.f53, hgo.f32, hgo.f74, hgo.f61, hgo.f34, hgo.f127, hgo.f211, hgo.f73, hgo.f72, hgo.f209, hgo.f216, hgo.f29, hgo.f31, hgo.f30, hgo.f28, hgo.f27, hgo.f204, hgo.f205, hgo.f76, hgo.f77, hgo.f217, hgo.f187, hgo.f43, hgo.f42, hgo.f44, hgo.f186, hgo.f188, hgo.f35, hgo.f36, hgo.f37, hgo.f178, hgo.f180, hgo.f1, hgo.f2, hgo.f3, hgo.f4, hgo.f5, hgo.f153, hgo.f154, hgo.f155, hgo.f156, hgo.f157, hgo.f164, hgo.f165, hgo.f166, hgo.f81, hgo.f84, hgo.f85, hgo.f86, hgo.f87, hgo.f137, hgo.f175, hgo.f174, hgo.f191, hgo.f11, hgo.f12, hgo.f13, hgo.f14, hgo.f15, hgo.f16, hgo.f17, hgo.f80, hgo.f138, hgo.f141, hgo.f143, hgo.f145, hgo.f129, hgo.f130, hgo.f132, hgo.f135, hgo.f136, k129, k130, k132, k135, k11, k12, zset_self, k136 hgo.a, k143 hgo.dr, k174 hgo.dr, k191 hgo.dr, h2, Nat.lt_irrefl]
    exact h
end KJ2
