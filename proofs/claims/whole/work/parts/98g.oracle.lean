/-! LAYER B: the oracle itself (made by wip/whole/gen/genF.py) -/
noncomputable def fo_129 : List Value → ZM → Value
  | [.int a, .int b], μ => .int (zi (decide (0 ≤ a) && decide (a < b)))
  | _, _ => .null
noncomputable def fo_130 : List Value → ZM → Value
  | [.int a, .int b, .int c], μ => .int (zi (decide (b ≤ a) && decide (a ≤ c)))
  | _, _ => .null
noncomputable def fo_135 : List Value → ZM → Value
  | [.int a, .int b, .int c], μ => .int (zi (decide (b ≤ a) && decide (a ≤ c)))
  | _, _ => .null
noncomputable def fo_132 : List Value → ZM → Value
  | [.long a, .long b], μ => .long (31 * a + b)
  | _, _ => .null
noncomputable def fo_136 : List Value → ZM → Value
  | [.int a], μ => .int (zi (decide (0 ≤ a) && decide (a < 8)))
  | _, _ => .null
noncomputable def fo_11 : List Value → ZM → Value
  | [.ref 1, .int w], μ => .ref (if w = 0 then 2 else if w = 1 then 3 else 4)
  | _, _ => .null
noncomputable def fo_12 : List Value → ZM → Value
  | [.ref 1, .int w], μ => .int (if w = 0 then 6 else if w = 1 then 999 else 3)
  | _, _ => .null
noncomputable def fo_13 : List Value → ZM → Value
  | [.ref 1, .int a, .int b], μ => .int (zi (decide (b = 0) || decide (b = μ.1 2 a.toNatClampNeg) || decide (b = 1) && decide (μ.1 2 a.toNatClampNeg = 6)))
  | _, _ => .null
noncomputable def fo_14 : List Value → ZM → Value
  | [.ref 1, .int a], μ => .int (sizeS (μ.1 2 a.toNatClampNeg) (μ.1 3 a.toNatClampNeg))
  | _, _ => .null
noncomputable def fo_15 : List Value → ZM → Value
  | [.ref 1, .int a, .int b], μ => .int (priceS (μ.1 2 a.toNatClampNeg) (μ.1 15 b.toNatClampNeg))
  | _, _ => .null
noncomputable def fo_16 : List Value → ZM → Value
  | [.int a], μ => .int (a - 1)
  | _, _ => .null
noncomputable def fo_17 : List Value → ZM → Value
  | [.int a], μ => .int (2 * a)
  | _, _ => .null
noncomputable def fo_80 : List Value → ZM → Value
  | [.ref 61, .int a], μ => .int (zi (anyS (μ.1 61 0).toNatClampNeg (μ.1 62) a))
  | _, _ => .null
noncomputable def fo_138 : List Value → ZM → Value
  | [.ref 0, .int a], μ => .int (zi (anyS (μ.1 0 15).toNatClampNeg (μ.1 13) a))
  | _, _ => .null
noncomputable def fo_141 : List Value → ZM → Value
  | [.ref 0, .int a], μ => .int (sizeS (μ.1 1 a.toNatClampNeg) (μ.1 2 a.toNatClampNeg))
  | _, _ => .null
noncomputable def fo_143 : List Value → ZM → Value
  | [.int a], μ => .int (zi (decide (0 ≤ a) && decide (a < 4)))
  | _, _ => .null
noncomputable def fo_145 : List Value → ZM → Value
  | [.ref 0, .int a, .int b], μ => .int (priceS (μ.1 1 a.toNatClampNeg) (μ.1 5 b.toNatClampNeg))
  | _, _ => .null
noncomputable def fo_174 : List Value → ZM → Value
  | [.int a], μ => .int (zi (decide (0 ≤ a) && decide (a < 6)))
  | _, _ => .null
noncomputable def fo_191 : List Value → ZM → Value
  | [.int a], μ => .int (zi (decide (0 ≤ a) && decide (a < 4)))
  | _, _ => .null
noncomputable def fo_137 : List Value → ZM → Value
  | [.ref 0, .int a], μ => .int (zi (decide (0 ≤ a) && decide (a < μ.1 0 15)))
  | _, _ => .null
noncomputable def fo_175 : List Value → ZM → Value
  | [.ref 0, .int a], μ => .int (whereS 48 (μ.1 18) a)
  | _, _ => .null
noncomputable def fo_164 : List Value → ZM → Value
  | [.ref 0, .int t, .int s, .int e], μ => .int (cmS (fun k => μ.1 16 (3 * t.toNatClampNeg + k)) (fun k => μ.1 17 (3 * t.toNatClampNeg + k)) s e (μ.1 15 t.toNatClampNeg).toNatClampNeg)
  | _, _ => .null
noncomputable def fo_165 : List Value → ZM → Value
  | [.ref 0, .int t], μ => .int (kbS (μ.1 15 t.toNatClampNeg).toNatClampNeg (fun k => μ.1 16 (3 * t.toNatClampNeg + k)) (fun k => μ.1 17 (3 * t.toNatClampNeg + k)))
  | _, _ => .null
noncomputable def fo_166 : List Value → ZM → Value
  | [.ref 0, .int t, .int e], μ => .int (knS (μ.1 15 t.toNatClampNeg).toNatClampNeg (fun k => μ.1 16 (3 * t.toNatClampNeg + k)) (fun k => μ.1 17 (3 * t.toNatClampNeg + k)) e)
  | _, _ => .null
noncomputable def fo_81 : List Value → ZM → Value
  | [.ref 61, .int t], μ => .int (zi (decide (-1001 < μ.1 115 t.toNatClampNeg)))
  | _, _ => .null
noncomputable def fo_84 : List Value → ZM → Value
  | [.ref 61, .int t], μ => .int (beS (μ.1 64 t.toNatClampNeg).toNatClampNeg (μ.1 (66 + t.toNatClampNeg)) (μ.1 (91 + t.toNatClampNeg)))
  | _, _ => .null
noncomputable def fo_85 : List Value → ZM → Value
  | [.ref 61, .int t, .int s], μ => .int (zi (decide (leS (μ.1 (66 + t.toNatClampNeg)) (μ.1 (91 + t.toNatClampNeg)) s 3 ≤ grS (μ.1 (66 + t.toNatClampNeg)) (μ.1 (91 + t.toNatClampNeg)) s 3)))
  | _, _ => .null
noncomputable def fo_86 : List Value → ZM → Value
  | [.ref 61, .int t, .int s], μ => .int (leS (μ.1 (66 + t.toNatClampNeg)) (μ.1 (91 + t.toNatClampNeg)) s 3)
  | _, _ => .null
noncomputable def fo_87 : List Value → ZM → Value
  | [.ref 61, .int t, .int s], μ => .int (grS (μ.1 (66 + t.toNatClampNeg)) (μ.1 (91 + t.toNatClampNeg)) s 3)
  | _, _ => .null
noncomputable def fo_1 : List Value → ZM → Value
  | [.ref 20, .int c, .int w, .ref 1], μ => .int (aboX μ c.toNatClampNeg w)
  | _, _ => .null
noncomputable def fo_2 : List Value → ZM → Value
  | [.ref 20, .int c, .ref 1], μ => .int (gapX μ c.toNatClampNeg)
  | _, _ => .null
noncomputable def fo_3 : List Value → ZM → Value
  | [.ref 20, .int c, .ref 1], μ => .int (spaX μ c.toNatClampNeg)
  | _, _ => .null
noncomputable def fo_4 : List Value → ZM → Value
  | [.ref 20, .int c, .ref 1], μ => .int (rooX μ c.toNatClampNeg)
  | _, _ => .null
noncomputable def fo_5 : List Value → ZM → Value
  | [.ref 20, .int c, .int w], μ => .int (timX μ c.toNatClampNeg w)
  | _, _ => .null
noncomputable def fo_153 : List Value → ZM → Value
  | [.ref 0, .int c], μ => .int (zi (decide (0 ≤ c) && decide (c < μ.1 0 8)))
  | _, _ => .null
noncomputable def fo_154 : List Value → ZM → Value
  | [.ref 0, .int c], μ => .int (gapM μ c.toNatClampNeg)
  | _, _ => .null
noncomputable def fo_155 : List Value → ZM → Value
  | [.ref 0, .int c], μ => .int (spaM μ c.toNatClampNeg)
  | _, _ => .null
noncomputable def fo_156 : List Value → ZM → Value
  | [.ref 0, .int c], μ => .int (zi (holM μ c.toNatClampNeg))
  | _, _ => .null
noncomputable def fo_157 : List Value → ZM → Value
  | [.ref 0, .int c, .int w], μ => .int (tolM μ c.toNatClampNeg w)
  | _, _ => .null
noncomputable def fo_35 : List Value → ZM → Value
  | [.ref 124, .int m, .int c, .ref 20, .ref 61], μ => .int (zi (fitX μ m.toNatClampNeg c.toNatClampNeg))
  | _, _ => .null
noncomputable def fo_36 : List Value → ZM → Value
  | [.ref 124, .int m, .ref 20, .ref 61], μ => .int (zi (allX μ m.toNatClampNeg))
  | _, _ => .null
noncomputable def fo_37 : List Value → ZM → Value
  | [.ref 124, .ref 20, .ref 61], μ => .int (bitS (allX μ) 6)
  | _, _ => .null
noncomputable def fo_178 : List Value → ZM → Value
  | [.ref 0, .int m, .int c], μ => .int (zi (fitM μ m.toNatClampNeg c.toNatClampNeg))
  | _, _ => .null
noncomputable def fo_180 : List Value → ZM → Value
  | [.ref 0, .int m], μ => .int (zi (allM μ m.toNatClampNeg))
  | _, _ => .null
noncomputable def fo_217 : List Value → ZM → Value
  | [.int x], μ => .int (nI (popc x.toNatClampNeg))
  | _, _ => .null
noncomputable def fo_187 : List Value → ZM → Value
  | [.int x], μ => .int (nI (popc x.toNatClampNeg))
  | _, _ => .null
noncomputable def fo_43 : List Value → ZM → Value
  | [.ref 124, .int m, .ref 61], μ => .int (lotX μ m.toNatClampNeg)
  | _, _ => .null
noncomputable def fo_42 : List Value → ZM → Value
  | [.ref 124, .int s], μ => .int (zi (expX μ s))
  | _, _ => .null
noncomputable def fo_44 : List Value → ZM → Value
  | [.ref 124, .int s, .ref 61], μ => .int (bitS (fun m => !decide (lotX μ m &&& s = 0)) 6)
  | _, _ => .null
noncomputable def fo_186 : List Value → ZM → Value
  | [.ref 0, .int m], μ => .int (lotM μ m.toNatClampNeg)
  | _, _ => .null
noncomputable def fo_188 : List Value → ZM → Value
  | [.ref 0], μ => .int (bstS (fun s => allB 6 (cndM μ (nI s))) 4096)
  | _, _ => .null
noncomputable def fo_76 : List Value → ZM → Value
  | [.ref 135, .int s, .int e], μ => .int (fewI (μ.1 (149 + s.toNatClampNeg)) (μ.1 147 s.toNatClampNeg).toNatClampNeg e (μ.1 147 s.toNatClampNeg).toNatClampNeg)
  | _, _ => .null
noncomputable def fo_77 : List Value → ZM → Value
  | [.ref 135, .int s, .int e], μ => .int (nI (cntI (μ.1 (149 + s.toNatClampNeg)) e (μ.1 147 s.toNatClampNeg).toNatClampNeg))
  | _, _ => .null
noncomputable def fo_216 : List Value → ZM → Value
  | [.int a, .int b], μ => .int (if a < b then -1 else if a = b then 0 else 1)
  | _, _ => .null
noncomputable def fo_29 : List Value → ZM → Value
  | [.ref 159, .int s], μ => .int (cosS (μ.1 160) s (μ.1 159 0).toNatClampNeg)
  | _, _ => .null
noncomputable def fo_31 : List Value → ZM → Value
  | [.ref 159, .int s, .int f], μ => .int (zi (finX μ (μ.1 159 0).toNatClampNeg s f.toNatClampNeg))
  | _, _ => .null
noncomputable def fo_30 : List Value → ZM → Value
  | [.ref 159, .int s], μ => .int (zi (allB 4 (finX μ (μ.1 159 0).toNatClampNeg s)))
  | _, _ => .null
noncomputable def fo_28 : List Value → ZM → Value
  | [.ref 159, .int s, .int b], μ => .int (zi (betS (μ.1 160) (μ.1 159 0).toNatClampNeg s.toNatClampNeg b.toNatClampNeg))
  | _, _ => .null
noncomputable def fo_27 : List Value → ZM → Value
  | [.ref 159], μ => .int (bseS (fun s => allB 4 (finX μ (μ.1 159 0).toNatClampNeg (nI s))) (betS (μ.1 160) (μ.1 159 0).toNatClampNeg) (2 ^ (μ.1 159 0).toNatClampNeg))
  | _, _ => .null
noncomputable def fo_204 : List Value → ZM → Value
  | [.ref 0, .int s], μ => .int (zi (allB 4 (finM μ (μ.1 0 32).toNatClampNeg s)))
  | _, _ => .null
noncomputable def fo_205 : List Value → ZM → Value
  | [.ref 0, .int s], μ => .int (cosS (μ.1 27) s (μ.1 0 32).toNatClampNeg)
  | _, _ => .null
noncomputable def fo_73 : List Value → ZM → Value
  | [.ref 169, .int s, .int k], μ => .int (offS (μ.1 170) (μ.1 169 0).toNatClampNeg s k)
  | _, _ => .null
noncomputable def fo_72 : List Value → ZM → Value
  | [.ref 169, .int k, .int z], μ => .int (nI (wayS (μ.1 170) (μ.1 169 0).toNatClampNeg k.toNatClampNeg (!decide (z = 0)) (offS (μ.1 170) (μ.1 169 0).toNatClampNeg ((1 : Int32) <<< (k &&& 31) - 1) k) (2 ^ (μ.1 169 0).toNatClampNeg)))
  | _, _ => .null
noncomputable def fo_209 : List Value → ZM → Value
  | [.ref 0, .int s, .int k], μ => .int (offS (μ.1 30) (μ.1 0 36).toNatClampNeg s k)
  | _, _ => .null
noncomputable def fo_34 : List Value → ZM → Value
  | [.ref 124, .int n], μ => .int (nI (cntE (μ.1 132) n.toNatClampNeg))
  | _, _ => .null
noncomputable def fo_127 : List Value → ZM → Value
  | [.ref 0, .int w], μ => .int (couX μ w)
  | _, _ => .null
noncomputable def fo_211 : List Value → ZM → Value
  | [.ref 0, .int w], μ => .int (couM μ w)
  | _, _ => .null
noncomputable def fo_133 : List Value → ZM → Value
  | [.long h, .ref a, .int m], μ => .long (rwF (μ.1 a) m.toNatClampNeg h)
  | _, _ => .null
noncomputable def fo_20 : List Value → ZM → Value
  | [.ref 1, .long h], μ => .long (itF (s20b μ) 4 (itF (s20 μ) 8 h))
  | _, _ => .null
noncomputable def fo_10 : List Value → ZM → Value
  | [.ref 20, .long h, .ref 1], μ => .long (itF (s10 μ) (μ.1 20 0).toNatClampNeg h)
  | _, _ => .null
noncomputable def fo_88 : List Value → ZM → Value
  | [.ref 61, .long h], μ => .long (itF (s88 μ) (μ.1 61 0).toNatClampNeg h)
  | _, _ => .null
noncomputable def fo_45 : List Value → ZM → Value
  | [.ref 124, .long h], μ => .long (itF (s45 μ) 6 h)
  | _, _ => .null
noncomputable def fo_78 : List Value → ZM → Value
  | [.ref 135, .long h], μ => .long (itF (s78 μ) 4 h)
  | _, _ => .null
noncomputable def fo_53 : List Value → ZM → Value
  | [.ref 153, .long h], μ => .long (itF (s53 μ) (μ.1 153 0).toNatClampNeg h)
  | _, _ => .null
noncomputable def fo_32 : List Value → ZM → Value
  | [.ref 159, .long h], μ => .long (rwF (μ.1 168) 4 (itF (s32 μ) (μ.1 159 0).toNatClampNeg h))
  | _, _ => .null
noncomputable def fo_74 : List Value → ZM → Value
  | [.ref 169, .long h], μ => .long (rwF (μ.1 170) (μ.1 169 0).toNatClampNeg h)
  | _, _ => .null
noncomputable def fo_61 : List Value → ZM → Value
  | [.ref 16, .long h], μ => .long (rwF (μ.1 17) (μ.1 16 1).toNatClampNeg h)
  | _, _ => .null
noncomputable def fo_134 : List Value → ZM → Value
  | [.long w], μ => .int (letV w)
  | _, _ => .null
noncomputable def fo_56 : List Value → ZM → Value
  | [.ref 16, .int a, .int b], μ => .int (zi (nxX μ a b))
  | _, _ => .null
noncomputable def fo_57 : List Value → ZM → Value
  | [.ref 16], μ => .int (zi (nxX μ 43 43 || nxX μ 45 45))
  | _, _ => .null
noncomputable def fo_18 : List Value → ZM → Value
  | [.ref 1, .int p, .int x], μ => .int (if x = 0 ∧ allB 9 (fun e => decide (μ.1 (6 + p.toNatClampNeg) e = 0)) = true then 1 else μ.1 (6 + p.toNatClampNeg) (x + 4).toNatClampNeg)
  | _, _ => .null
noncomputable def fo_19 : List Value → ZM → Value
  | [.ref 1, .int p], μ => .int (zi (allB 9 (fun e => decide (μ.1 (6 + p.toNatClampNeg) e = 0))))
  | _, _ => .null
noncomputable def fo_9 : List Value → ZM → Value
  | [.long a, .long b], μ => .long (gcI a b)
  | _, _ => .null
noncomputable def fo_24 : List Value → ZM → Value
  | [.ref 40, .int k], μ => .int (zi (allB (μ.1 40 3).toNatClampNeg (fun c => decide (μ.1 (54 + k.toNatClampNeg) c ≤ μ.1 43 c))))
  | _, _ => .null
noncomputable def fo_25 : List Value → ZM → Value
  | [.ref 40, .int p], μ => .int (if ¬ μ.1 40 1 = -1 ∧ (0 ≤ p ∧ p < μ.1 40 2) then μ.1 41 p.toNatClampNeg else -1)
  | _, _ => .null
noncomputable def fo_160 : List Value → ZM → Value
  | [.ref 0], μ => .int (zi (allB (μ.1 0 8).toNatClampNeg (holM μ)))
  | _, _ => .null
noncomputable def fo_49 : List Value → ZM → Value
  | [.ref 153, .int s, .int l, .ref 135], μ => .int (zi (inTX μ s l))
  | _, _ => .null
noncomputable def fo_50 : List Value → ZM → Value
  | [.ref 153, .int o], μ => .int (shX μ o)
  | _, _ => .null
noncomputable def fo_51 : List Value → ZM → Value
  | [.ref 153, .int o, .ref 135], μ => .int (dayX μ o)
  | _, _ => .null
noncomputable def fo_52 : List Value → ZM → Value
  | [.int x, .int a], μ => .int (rup x a)
  | _, _ => .null
noncomputable def fo_195 : List Value → ZM → Value
  | [.ref 0, .int o], μ => .int (doM μ o.toNatClampNeg)
  | _, _ => .null
noncomputable def fo_197 : List Value → ZM → Value
  | [.ref 0, .int b], μ => .int (wcM μ b)
  | _, _ => .null
noncomputable def fo_69 : List Value → ZM → Value
  | [.ref 117], μ => .int (madX μ)
  | _, _ => .null
noncomputable def fo_70 : List Value → ZM → Value
  | [.ref 117, .int t], μ => .int (paX μ t)
  | _, _ => .null
noncomputable def FO : ZFt := fun k as μ => if k = 129 then fo_129 as μ else if k = 130 then fo_130 as μ else if k = 135 then fo_135 as μ else if k = 132 then fo_132 as μ else if k = 136 then fo_136 as μ else if k = 11 then fo_11 as μ else if k = 12 then fo_12 as μ else if k = 13 then fo_13 as μ else if k = 14 then fo_14 as μ else if k = 15 then fo_15 as μ else if k = 16 then fo_16 as μ else if k = 17 then fo_17 as μ else if k = 80 then fo_80 as μ else if k = 138 then fo_138 as μ else if k = 141 then fo_141 as μ else if k = 143 then fo_143 as μ else if k = 145 then fo_145 as μ else if k = 174 then fo_174 as μ else if k = 191 then fo_191 as μ else if k = 137 then fo_137 as μ else if k = 175 then fo_175 as μ else if k = 164 then fo_164 as μ else if k = 165 then fo_165 as μ else if k = 166 then fo_166 as μ else if k = 81 then fo_81 as μ else if k = 84 then fo_84 as μ else if k = 85 then fo_85 as μ else if k = 86 then fo_86 as μ else if k = 87 then fo_87 as μ else if k = 1 then fo_1 as μ else if k = 2 then fo_2 as μ else if k = 3 then fo_3 as μ else if k = 4 then fo_4 as μ else if k = 5 then fo_5 as μ else if k = 153 then fo_153 as μ else if k = 154 then fo_154 as μ else if k = 155 then fo_155 as μ else if k = 156 then fo_156 as μ else if k = 157 then fo_157 as μ else if k = 35 then fo_35 as μ else if k = 36 then fo_36 as μ else if k = 37 then fo_37 as μ else if k = 178 then fo_178 as μ else if k = 180 then fo_180 as μ else if k = 217 then fo_217 as μ else if k = 187 then fo_187 as μ else if k = 43 then fo_43 as μ else if k = 42 then fo_42 as μ else if k = 44 then fo_44 as μ else if k = 186 then fo_186 as μ else if k = 188 then fo_188 as μ else if k = 76 then fo_76 as μ else if k = 77 then fo_77 as μ else if k = 216 then fo_216 as μ else if k = 29 then fo_29 as μ else if k = 31 then fo_31 as μ else if k = 30 then fo_30 as μ else if k = 28 then fo_28 as μ else if k = 27 then fo_27 as μ else if k = 204 then fo_204 as μ else if k = 205 then fo_205 as μ else if k = 73 then fo_73 as μ else if k = 72 then fo_72 as μ else if k = 209 then fo_209 as μ else if k = 34 then fo_34 as μ else if k = 127 then fo_127 as μ else if k = 211 then fo_211 as μ else if k = 133 then fo_133 as μ else if k = 20 then fo_20 as μ else if k = 10 then fo_10 as μ else if k = 88 then fo_88 as μ else if k = 45 then fo_45 as μ else if k = 78 then fo_78 as μ else if k = 53 then fo_53 as μ else if k = 32 then fo_32 as μ else if k = 74 then fo_74 as μ else if k = 61 then fo_61 as μ else if k = 134 then fo_134 as μ else if k = 56 then fo_56 as μ else if k = 57 then fo_57 as μ else if k = 18 then fo_18 as μ else if k = 19 then fo_19 as μ else if k = 9 then fo_9 as μ else if k = 24 then fo_24 as μ else if k = 25 then fo_25 as μ else if k = 160 then fo_160 as μ else if k = 49 then fo_49 as μ else if k = 50 then fo_50 as μ else if k = 51 then fo_51 as μ else if k = 52 then fo_52 as μ else if k = 195 then fo_195 as μ else if k = 197 then fo_197 as μ else if k = 69 then fo_69 as μ else if k = 70 then fo_70 as μ else .null
theorem FO_129 (as : List Value) (μ : ZM) : FO 129 as μ = fo_129 as μ := rfl
theorem FO_130 (as : List Value) (μ : ZM) : FO 130 as μ = fo_130 as μ := rfl
theorem FO_135 (as : List Value) (μ : ZM) : FO 135 as μ = fo_135 as μ := rfl
theorem FO_132 (as : List Value) (μ : ZM) : FO 132 as μ = fo_132 as μ := rfl
theorem FO_136 (as : List Value) (μ : ZM) : FO 136 as μ = fo_136 as μ := rfl
theorem FO_11 (as : List Value) (μ : ZM) : FO 11 as μ = fo_11 as μ := rfl
theorem FO_12 (as : List Value) (μ : ZM) : FO 12 as μ = fo_12 as μ := rfl
theorem FO_13 (as : List Value) (μ : ZM) : FO 13 as μ = fo_13 as μ := rfl
theorem FO_14 (as : List Value) (μ : ZM) : FO 14 as μ = fo_14 as μ := rfl
theorem FO_15 (as : List Value) (μ : ZM) : FO 15 as μ = fo_15 as μ := rfl
theorem FO_16 (as : List Value) (μ : ZM) : FO 16 as μ = fo_16 as μ := rfl
theorem FO_17 (as : List Value) (μ : ZM) : FO 17 as μ = fo_17 as μ := rfl
theorem FO_80 (as : List Value) (μ : ZM) : FO 80 as μ = fo_80 as μ := rfl
theorem FO_138 (as : List Value) (μ : ZM) : FO 138 as μ = fo_138 as μ := rfl
theorem FO_141 (as : List Value) (μ : ZM) : FO 141 as μ = fo_141 as μ := rfl
theorem FO_143 (as : List Value) (μ : ZM) : FO 143 as μ = fo_143 as μ := rfl
theorem FO_145 (as : List Value) (μ : ZM) : FO 145 as μ = fo_145 as μ := rfl
theorem FO_174 (as : List Value) (μ : ZM) : FO 174 as μ = fo_174 as μ := rfl
theorem FO_191 (as : List Value) (μ : ZM) : FO 191 as μ = fo_191 as μ := rfl
theorem FO_137 (as : List Value) (μ : ZM) : FO 137 as μ = fo_137 as μ := rfl
theorem FO_175 (as : List Value) (μ : ZM) : FO 175 as μ = fo_175 as μ := rfl
theorem FO_164 (as : List Value) (μ : ZM) : FO 164 as μ = fo_164 as μ := rfl
theorem FO_165 (as : List Value) (μ : ZM) : FO 165 as μ = fo_165 as μ := rfl
theorem FO_166 (as : List Value) (μ : ZM) : FO 166 as μ = fo_166 as μ := rfl
theorem FO_81 (as : List Value) (μ : ZM) : FO 81 as μ = fo_81 as μ := rfl
theorem FO_84 (as : List Value) (μ : ZM) : FO 84 as μ = fo_84 as μ := rfl
theorem FO_85 (as : List Value) (μ : ZM) : FO 85 as μ = fo_85 as μ := rfl
theorem FO_86 (as : List Value) (μ : ZM) : FO 86 as μ = fo_86 as μ := rfl
theorem FO_87 (as : List Value) (μ : ZM) : FO 87 as μ = fo_87 as μ := rfl
theorem FO_1 (as : List Value) (μ : ZM) : FO 1 as μ = fo_1 as μ := rfl
theorem FO_2 (as : List Value) (μ : ZM) : FO 2 as μ = fo_2 as μ := rfl
theorem FO_3 (as : List Value) (μ : ZM) : FO 3 as μ = fo_3 as μ := rfl
theorem FO_4 (as : List Value) (μ : ZM) : FO 4 as μ = fo_4 as μ := rfl
theorem FO_5 (as : List Value) (μ : ZM) : FO 5 as μ = fo_5 as μ := rfl
theorem FO_153 (as : List Value) (μ : ZM) : FO 153 as μ = fo_153 as μ := rfl
theorem FO_154 (as : List Value) (μ : ZM) : FO 154 as μ = fo_154 as μ := rfl
theorem FO_155 (as : List Value) (μ : ZM) : FO 155 as μ = fo_155 as μ := rfl
theorem FO_156 (as : List Value) (μ : ZM) : FO 156 as μ = fo_156 as μ := rfl
theorem FO_157 (as : List Value) (μ : ZM) : FO 157 as μ = fo_157 as μ := rfl
theorem FO_35 (as : List Value) (μ : ZM) : FO 35 as μ = fo_35 as μ := rfl
theorem FO_36 (as : List Value) (μ : ZM) : FO 36 as μ = fo_36 as μ := rfl
theorem FO_37 (as : List Value) (μ : ZM) : FO 37 as μ = fo_37 as μ := rfl
theorem FO_178 (as : List Value) (μ : ZM) : FO 178 as μ = fo_178 as μ := rfl
theorem FO_180 (as : List Value) (μ : ZM) : FO 180 as μ = fo_180 as μ := rfl
theorem FO_217 (as : List Value) (μ : ZM) : FO 217 as μ = fo_217 as μ := rfl
theorem FO_187 (as : List Value) (μ : ZM) : FO 187 as μ = fo_187 as μ := rfl
theorem FO_43 (as : List Value) (μ : ZM) : FO 43 as μ = fo_43 as μ := rfl
theorem FO_42 (as : List Value) (μ : ZM) : FO 42 as μ = fo_42 as μ := rfl
theorem FO_44 (as : List Value) (μ : ZM) : FO 44 as μ = fo_44 as μ := rfl
theorem FO_186 (as : List Value) (μ : ZM) : FO 186 as μ = fo_186 as μ := rfl
theorem FO_188 (as : List Value) (μ : ZM) : FO 188 as μ = fo_188 as μ := rfl
theorem FO_76 (as : List Value) (μ : ZM) : FO 76 as μ = fo_76 as μ := rfl
theorem FO_77 (as : List Value) (μ : ZM) : FO 77 as μ = fo_77 as μ := rfl
theorem FO_216 (as : List Value) (μ : ZM) : FO 216 as μ = fo_216 as μ := rfl
theorem FO_29 (as : List Value) (μ : ZM) : FO 29 as μ = fo_29 as μ := rfl
theorem FO_31 (as : List Value) (μ : ZM) : FO 31 as μ = fo_31 as μ := rfl
theorem FO_30 (as : List Value) (μ : ZM) : FO 30 as μ = fo_30 as μ := rfl
theorem FO_28 (as : List Value) (μ : ZM) : FO 28 as μ = fo_28 as μ := rfl
theorem FO_27 (as : List Value) (μ : ZM) : FO 27 as μ = fo_27 as μ := rfl
theorem FO_204 (as : List Value) (μ : ZM) : FO 204 as μ = fo_204 as μ := rfl
theorem FO_205 (as : List Value) (μ : ZM) : FO 205 as μ = fo_205 as μ := rfl
theorem FO_73 (as : List Value) (μ : ZM) : FO 73 as μ = fo_73 as μ := rfl
theorem FO_72 (as : List Value) (μ : ZM) : FO 72 as μ = fo_72 as μ := rfl
theorem FO_209 (as : List Value) (μ : ZM) : FO 209 as μ = fo_209 as μ := rfl
theorem FO_34 (as : List Value) (μ : ZM) : FO 34 as μ = fo_34 as μ := rfl
theorem FO_127 (as : List Value) (μ : ZM) : FO 127 as μ = fo_127 as μ := rfl
theorem FO_211 (as : List Value) (μ : ZM) : FO 211 as μ = fo_211 as μ := rfl
theorem FO_133 (as : List Value) (μ : ZM) : FO 133 as μ = fo_133 as μ := rfl
theorem FO_20 (as : List Value) (μ : ZM) : FO 20 as μ = fo_20 as μ := rfl
theorem FO_10 (as : List Value) (μ : ZM) : FO 10 as μ = fo_10 as μ := rfl
theorem FO_88 (as : List Value) (μ : ZM) : FO 88 as μ = fo_88 as μ := rfl
theorem FO_45 (as : List Value) (μ : ZM) : FO 45 as μ = fo_45 as μ := rfl
theorem FO_78 (as : List Value) (μ : ZM) : FO 78 as μ = fo_78 as μ := rfl
theorem FO_53 (as : List Value) (μ : ZM) : FO 53 as μ = fo_53 as μ := rfl
theorem FO_32 (as : List Value) (μ : ZM) : FO 32 as μ = fo_32 as μ := rfl
theorem FO_74 (as : List Value) (μ : ZM) : FO 74 as μ = fo_74 as μ := rfl
theorem FO_61 (as : List Value) (μ : ZM) : FO 61 as μ = fo_61 as μ := rfl
theorem FO_134 (as : List Value) (μ : ZM) : FO 134 as μ = fo_134 as μ := rfl
theorem FO_56 (as : List Value) (μ : ZM) : FO 56 as μ = fo_56 as μ := rfl
theorem FO_57 (as : List Value) (μ : ZM) : FO 57 as μ = fo_57 as μ := rfl
theorem FO_18 (as : List Value) (μ : ZM) : FO 18 as μ = fo_18 as μ := rfl
theorem FO_19 (as : List Value) (μ : ZM) : FO 19 as μ = fo_19 as μ := rfl
theorem FO_9 (as : List Value) (μ : ZM) : FO 9 as μ = fo_9 as μ := rfl
theorem FO_24 (as : List Value) (μ : ZM) : FO 24 as μ = fo_24 as μ := rfl
theorem FO_25 (as : List Value) (μ : ZM) : FO 25 as μ = fo_25 as μ := rfl
theorem FO_160 (as : List Value) (μ : ZM) : FO 160 as μ = fo_160 as μ := rfl
theorem FO_49 (as : List Value) (μ : ZM) : FO 49 as μ = fo_49 as μ := rfl
theorem FO_50 (as : List Value) (μ : ZM) : FO 50 as μ = fo_50 as μ := rfl
theorem FO_51 (as : List Value) (μ : ZM) : FO 51 as μ = fo_51 as μ := rfl
theorem FO_52 (as : List Value) (μ : ZM) : FO 52 as μ = fo_52 as μ := rfl
theorem FO_195 (as : List Value) (μ : ZM) : FO 195 as μ = fo_195 as μ := rfl
theorem FO_197 (as : List Value) (μ : ZM) : FO 197 as μ = fo_197 as μ := rfl
theorem FO_69 (as : List Value) (μ : ZM) : FO 69 as μ = fo_69 as μ := rfl
theorem FO_70 (as : List Value) (μ : ZM) : FO 70 as μ = fo_70 as μ := rfl
theorem FO_Fa : Fa FO := ⟨fun _ _ _ => FO_129 _ _, fun _ _ _ _ => FO_130 _ _, fun _ _ _ _ => FO_135 _ _, fun _ _ _ => FO_132 _ _, fun _ _ => FO_136 _ _⟩
theorem FO_Fdr : Fdr FO := ⟨FO_Fa, fun _ _ => FO_11 _ _, fun _ _ => FO_12 _ _, fun _ _ _ => FO_13 _ _, fun _ _ => FO_14 _ _, fun _ _ _ => FO_15 _ _, fun _ _ => FO_16 _ _, fun _ _ => FO_17 _ _, fun _ _ => FO_80 _ _, fun _ _ => FO_138 _ _, fun _ _ => FO_141 _ _, fun _ _ => FO_143 _ _, fun _ _ _ => FO_145 _ _⟩
theorem FO_Fsm : Fsm FO := ⟨FO_Fdr, fun _ _ => FO_174 _ _, fun _ _ => FO_191 _ _⟩
theorem FO_Fma : Fma FO := ⟨FO_Fsm, fun _ _ => FO_137 _ _, fun _ _ => FO_175 _ _⟩
theorem FO_Fkn : Fkn FO := ⟨FO_Fma, fun _ _ _ _ => FO_164 _ _, fun _ _ => FO_165 _ _, fun _ _ _ => FO_166 _ _, fun _ _ => FO_81 _ _, fun _ _ => FO_84 _ _, fun _ _ _ => FO_85 _ _, fun _ _ _ => FO_86 _ _, fun _ _ _ => FO_87 _ _⟩
theorem FO_Fch : Fch FO := ⟨FO_Fkn, fun _ _ _ => FO_1 _ _, fun _ _ => FO_2 _ _, fun _ _ => FO_3 _ _, fun _ _ => FO_4 _ _, fun _ _ _ => FO_5 _ _, fun _ _ => FO_153 _ _, fun _ _ => FO_154 _ _, fun _ _ => FO_155 _ _, fun _ _ => FO_156 _ _, fun _ _ _ => FO_157 _ _⟩
theorem FO_Fri : Fri FO := ⟨FO_Fch, fun _ _ _ => FO_35 _ _, fun _ _ => FO_36 _ _, fun _ => FO_37 _ _, fun _ _ _ => FO_178 _ _, fun _ _ => FO_180 _ _⟩
theorem FO_Fbl : Fbl FO := ⟨FO_Fri, fun _ _ => FO_217 _ _, fun _ _ => FO_187 _ _, fun _ _ => FO_43 _ _, fun _ _ => FO_42 _ _, fun _ _ => FO_44 _ _, fun _ _ => FO_186 _ _, fun _ => FO_188 _ _⟩
theorem FO_Ffo : Ffo FO := ⟨FO_Fbl, fun _ _ _ => FO_76 _ _, fun _ _ _ => FO_77 _ _⟩
theorem FO_Fen : Fen FO := ⟨FO_Ffo, fun _ _ _ => FO_216 _ _, fun _ _ => FO_29 _ _, fun _ _ _ => FO_31 _ _, fun _ _ => FO_30 _ _, fun _ _ _ => FO_28 _ _, fun _ => FO_27 _ _, fun _ _ => FO_204 _ _, fun _ _ => FO_205 _ _⟩
theorem FO_Fdf : Fdf FO := ⟨FO_Fen, fun _ _ _ => FO_73 _ _, fun _ _ _ => FO_72 _ _, fun _ _ _ => FO_209 _ _⟩
theorem FO_Fco : Fco FO := ⟨FO_Fdf, fun _ _ => FO_34 _ _, fun _ _ => FO_127 _ _, fun _ _ => FO_211 _ _⟩
theorem FO_Fdi : Fdi FO := ⟨FO_Fco, fun _ _ _ _ => FO_133 _ _, fun _ _ => FO_20 _ _, fun _ _ => FO_10 _ _, fun _ _ => FO_88 _ _, fun _ _ => FO_45 _ _, fun _ _ => FO_78 _ _, fun _ _ => FO_53 _ _, fun _ _ => FO_32 _ _, fun _ _ => FO_74 _ _, fun _ _ => FO_61 _ _⟩
theorem FO_Fle : Fle FO := ⟨FO_Fdi, fun _ _ => FO_134 _ _⟩
theorem FO_Fpg : Fpg FO := ⟨FO_Fle, fun _ _ _ => FO_56 _ _, fun _ => FO_57 _ _⟩
theorem FO_Fof : Fof FO := ⟨FO_Fpg, fun _ _ _ => FO_18 _ _, fun _ _ => FO_19 _ _⟩
theorem FO_Fgc : Fgc FO := ⟨FO_Fof, fun _ _ _ => FO_9 _ _⟩
theorem FO_Fgi : Fgi FO := ⟨FO_Fgc, fun _ _ => FO_24 _ _, fun _ _ => FO_25 _ _⟩
theorem FO_Fgm : Fgm FO := ⟨FO_Fgi, fun _ => FO_160 _ _⟩
theorem FO_Fgo : Fgo FO := ⟨FO_Fgm, fun _ _ _ => FO_49 _ _, fun _ _ => FO_50 _ _, fun _ _ => FO_51 _ _, fun _ _ _ => FO_52 _ _, fun _ _ => FO_195 _ _, fun _ _ => FO_197 _ _⟩
theorem FO_Fpa : Fpa FO := ⟨FO_Fgo, fun _ => FO_69 _ _, fun _ _ => FO_70 _ _⟩
