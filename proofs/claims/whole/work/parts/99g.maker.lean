/-! LAYER C: a new SmallMakers, by program (genD.py) -/
theorem zjn_1 (μ : ZM) (o n : Nat) (μc : ZM) (a k : Nat) : (zjn μ o n μc).1 a k = if o ≤ a ∧ a < o + n then μc.1 (a - o) k else μ.1 a k := by
  unfold zjn
  dsimp only
  split <;> rfl
theorem dX11_init_0 : decode cX11_init 0 = .ok (.aload_n 0, 1) := by decide +kernel
theorem dX11_init_1 : decode cX11_init 1 = .ok (.invokespecial 1, 3) := by decide +kernel
theorem dX11_init_4 : decode cX11_init 4 = .ok (.aload_n 0, 1) := by decide +kernel
theorem dX11_init_5 : decode cX11_init 5 = .ok (.new 7, 3) := by decide +kernel
theorem dX11_init_8 : decode cX11_init 8 = .ok (.dup, 1) := by decide +kernel
theorem dX11_init_9 : decode cX11_init 9 = .ok (.invokespecial 9, 3) := by decide +kernel
theorem dX11_init_12 : decode cX11_init 12 = .ok (.putfield 10, 3) := by decide +kernel
theorem dX11_init_15 : decode cX11_init 15 = .ok (.aload_n 0, 1) := by decide +kernel
theorem dX11_init_16 : decode cX11_init 16 = .ok (.new 16, 3) := by decide +kernel
theorem dX11_init_19 : decode cX11_init 19 = .ok (.dup, 1) := by decide +kernel
theorem dX11_init_20 : decode cX11_init 20 = .ok (.invokespecial 18, 3) := by decide +kernel
theorem dX11_init_23 : decode cX11_init 23 = .ok (.putfield 19, 3) := by decide +kernel
theorem dX11_init_26 : decode cX11_init 26 = .ok (.aload_n 0, 1) := by decide +kernel
theorem dX11_init_27 : decode cX11_init 27 = .ok (.new 23, 3) := by decide +kernel
theorem dX11_init_30 : decode cX11_init 30 = .ok (.dup, 1) := by decide +kernel
theorem dX11_init_31 : decode cX11_init 31 = .ok (.invokespecial 25, 3) := by decide +kernel
theorem dX11_init_34 : decode cX11_init 34 = .ok (.putfield 26, 3) := by decide +kernel
theorem dX11_init_37 : decode cX11_init 37 = .ok (.aload_n 0, 1) := by decide +kernel
theorem dX11_init_38 : decode cX11_init 38 = .ok (.new 30, 3) := by decide +kernel
theorem dX11_init_41 : decode cX11_init 41 = .ok (.dup, 1) := by decide +kernel
theorem dX11_init_42 : decode cX11_init 42 = .ok (.invokespecial 32, 3) := by decide +kernel
theorem dX11_init_45 : decode cX11_init 45 = .ok (.putfield 33, 3) := by decide +kernel
theorem dX11_init_48 : decode cX11_init 48 = .ok (.aload_n 0, 1) := by decide +kernel
theorem dX11_init_49 : decode cX11_init 49 = .ok (.new 37, 3) := by decide +kernel
theorem dX11_init_52 : decode cX11_init 52 = .ok (.dup, 1) := by decide +kernel
theorem dX11_init_53 : decode cX11_init 53 = .ok (.invokespecial 39, 3) := by decide +kernel
theorem dX11_init_56 : decode cX11_init 56 = .ok (.putfield 40, 3) := by decide +kernel
theorem dX11_init_59 : decode cX11_init 59 = .ok (.aload_n 0, 1) := by decide +kernel
theorem dX11_init_60 : decode cX11_init 60 = .ok (.new 44, 3) := by decide +kernel
theorem dX11_init_63 : decode cX11_init 63 = .ok (.dup, 1) := by decide +kernel
theorem dX11_init_64 : decode cX11_init 64 = .ok (.invokespecial 46, 3) := by decide +kernel
theorem dX11_init_67 : decode cX11_init 67 = .ok (.putfield 47, 3) := by decide +kernel
theorem dX11_init_70 : decode cX11_init 70 = .ok (.aload_n 0, 1) := by decide +kernel
theorem dX11_init_71 : decode cX11_init 71 = .ok (.new 51, 3) := by decide +kernel
theorem dX11_init_74 : decode cX11_init 74 = .ok (.dup, 1) := by decide +kernel
theorem dX11_init_75 : decode cX11_init 75 = .ok (.invokespecial 53, 3) := by decide +kernel
theorem dX11_init_78 : decode cX11_init 78 = .ok (.putfield 54, 3) := by decide +kernel
theorem dX11_init_81 : decode cX11_init 81 = .ok (.aload_n 0, 1) := by decide +kernel
theorem dX11_init_82 : decode cX11_init 82 = .ok (.new 58, 3) := by decide +kernel
theorem dX11_init_85 : decode cX11_init 85 = .ok (.dup, 1) := by decide +kernel
theorem dX11_init_86 : decode cX11_init 86 = .ok (.invokespecial 60, 3) := by decide +kernel
theorem dX11_init_89 : decode cX11_init 89 = .ok (.putfield 61, 3) := by decide +kernel
theorem dX11_init_92 : decode cX11_init 92 = .ok (.aload_n 0, 1) := by decide +kernel
theorem dX11_init_93 : decode cX11_init 93 = .ok (.new 65, 3) := by decide +kernel
theorem dX11_init_96 : decode cX11_init 96 = .ok (.dup, 1) := by decide +kernel
theorem dX11_init_97 : decode cX11_init 97 = .ok (.invokespecial 67, 3) := by decide +kernel
theorem dX11_init_100 : decode cX11_init 100 = .ok (.putfield 68, 3) := by decide +kernel
theorem dX11_init_103 : decode cX11_init 103 = .ok (.aload_n 0, 1) := by decide +kernel
theorem dX11_init_104 : decode cX11_init 104 = .ok (.new 72, 3) := by decide +kernel
theorem dX11_init_107 : decode cX11_init 107 = .ok (.dup, 1) := by decide +kernel
theorem dX11_init_108 : decode cX11_init 108 = .ok (.invokespecial 74, 3) := by decide +kernel
theorem dX11_init_111 : decode cX11_init 111 = .ok (.putfield 75, 3) := by decide +kernel
theorem dX11_init_114 : decode cX11_init 114 = .ok (.aload_n 0, 1) := by decide +kernel
theorem dX11_init_115 : decode cX11_init 115 = .ok (.new 79, 3) := by decide +kernel
theorem dX11_init_118 : decode cX11_init 118 = .ok (.dup, 1) := by decide +kernel
theorem dX11_init_119 : decode cX11_init 119 = .ok (.invokespecial 81, 3) := by decide +kernel
theorem dX11_init_122 : decode cX11_init 122 = .ok (.putfield 82, 3) := by decide +kernel
theorem dX11_init_125 : decode cX11_init 125 = .ok (.return_, 1) := by decide +kernel
theorem cn_X1 : zCN RX11 7 9 (yX1_init, cX1_init, 1, none) 6 := ⟨(z_tw 30 (by decide +kernel)), rfl, (z_tw 2 (by decide +kernel)), ⟨by decide, by decide⟩, by decide +kernel, rfl, (.inl (z_tw 28 (by decide +kernel))), (z_tw 29 (by decide +kernel)), (z_tw 26 (by decide +kernel)), (z_tw 27 (by decide +kernel))⟩
theorem df_X1 : ∀ j, j < 6 → defaultValue (tyX1 j) = vp_V [.null, .null, .null, .null, .null, .null] j := by
  intro j hj
  rcases (show j = 0 ∨ j = 1 ∨ j = 2 ∨ j = 3 ∨ j = 4 ∨ j = 5 by omega) with rfl | rfl | rfl | rfl | rfl | rfl <;> rfl
theorem zt_X1 : Zx.tail.take 0 ++ ZX1.map (zsd 1) = Zx.tail.take 15 := by decide +kernel
theorem cn_X6 : zCN RX11 16 18 (yX6_init, cX6_init, 1, none) 10 := ⟨(z_tw 68 (by decide +kernel)), rfl, (z_tw 4 (by decide +kernel)), ⟨by decide, by decide⟩, by decide +kernel, rfl, (.inr ⟨"SmallMakers", (z_tw 66 (by decide +kernel))⟩), (z_tw 67 (by decide +kernel)), (z_tw 64 (by decide +kernel)), (z_tw 65 (by decide +kernel))⟩
theorem df_X6 : ∀ j, j < 10 → defaultValue (tyX6 j) = vp_V [.null, .int 0, .null, .null, .int 0, .int 0, .int 0, .int 0, .int 0, .int 0] j := by
  intro j hj
  rcases (show j = 0 ∨ j = 1 ∨ j = 2 ∨ j = 3 ∨ j = 4 ∨ j = 5 ∨ j = 6 ∨ j = 7 ∨ j = 8 ∨ j = 9 by omega) with rfl | rfl | rfl | rfl | rfl | rfl | rfl | rfl | rfl | rfl <;> rfl
theorem zt_X6 : Zx.tail.take 15 ++ ZX6.map (zsd 16) = Zx.tail.take 19 := by decide +kernel
theorem cn_X0 : zCN RX11 23 25 (yX0_init, cX0_init, 1, none) 8 := ⟨(z_tw 115 (by decide +kernel)), rfl, (z_tw 5 (by decide +kernel)), ⟨by decide, by decide⟩, by decide +kernel, rfl, (.inr ⟨"SmallMakers", (z_tw 113 (by decide +kernel))⟩), (z_tw 114 (by decide +kernel)), (z_tw 111 (by decide +kernel)), (z_tw 112 (by decide +kernel))⟩
theorem df_X0 : ∀ j, j < 8 → defaultValue (tyX0 j) = vp_V [.int 0, .null, .null, .null, .null, .null, .null, .null] j := by
  intro j hj
  rcases (show j = 0 ∨ j = 1 ∨ j = 2 ∨ j = 3 ∨ j = 4 ∨ j = 5 ∨ j = 6 ∨ j = 7 by omega) with rfl | rfl | rfl | rfl | rfl | rfl | rfl | rfl <;> rfl
theorem zt_X0 : Zx.tail.take 19 ++ ZX0.map (zsd 20) = Zx.tail.take 39 := by decide +kernel
theorem cn_X2 : zCN RX11 30 32 (yX2_init, cX2_init, 1, none) 9 := ⟨(z_tw 156 (by decide +kernel)), rfl, (z_tw 6 (by decide +kernel)), ⟨by decide, by decide⟩, by decide +kernel, rfl, (.inr ⟨"SmallMakers", (z_tw 154 (by decide +kernel))⟩), (z_tw 155 (by decide +kernel)), (z_tw 152 (by decide +kernel)), (z_tw 153 (by decide +kernel))⟩
theorem df_X2 : ∀ j, j < 9 → defaultValue (tyX2 j) = vp_V [.int 0, .int 0, .int 0, .int 0, .null, .null, .null, .null, .null] j := by
  intro j hj
  rcases (show j = 0 ∨ j = 1 ∨ j = 2 ∨ j = 3 ∨ j = 4 ∨ j = 5 ∨ j = 6 ∨ j = 7 ∨ j = 8 by omega) with rfl | rfl | rfl | rfl | rfl | rfl | rfl | rfl | rfl <;> rfl
theorem zt_X2 : Zx.tail.take 39 ++ ZX2.map (zsd 40) = Zx.tail.take 60 := by decide +kernel
theorem cn_X10 : zCN RX11 37 39 (yX10_init, cX10_init, 1, none) 9 := ⟨(z_tw 193 (by decide +kernel)), rfl, (z_tw 7 (by decide +kernel)), ⟨by decide, by decide⟩, by decide +kernel, rfl, (.inr ⟨"SmallMakers", (z_tw 191 (by decide +kernel))⟩), (z_tw 192 (by decide +kernel)), (z_tw 189 (by decide +kernel)), (z_tw 190 (by decide +kernel))⟩
theorem df_X10 : ∀ j, j < 9 → defaultValue (tyX10 j) = vp_V [.int 0, .int 0, .null, .null, .null, .null, .null, .null, .null] j := by
  intro j hj
  rcases (show j = 0 ∨ j = 1 ∨ j = 2 ∨ j = 3 ∨ j = 4 ∨ j = 5 ∨ j = 6 ∨ j = 7 ∨ j = 8 by omega) with rfl | rfl | rfl | rfl | rfl | rfl | rfl | rfl | rfl <;> rfl
theorem zt_X10 : Zx.tail.take 60 ++ ZX10.map (zsd 61) = Zx.tail.take 116 := by decide +kernel
theorem cn_X7 : zCN RX11 44 46 (yX7_init, cX7_init, 1, none) 8 := ⟨(z_tw 242 (by decide +kernel)), rfl, (z_tw 8 (by decide +kernel)), ⟨by decide, by decide⟩, by decide +kernel, rfl, (.inr ⟨"SmallMakers", (z_tw 240 (by decide +kernel))⟩), (z_tw 241 (by decide +kernel)), (z_tw 238 (by decide +kernel)), (z_tw 239 (by decide +kernel))⟩
theorem df_X7 : ∀ j, j < 8 → defaultValue (tyX7 j) = vp_V [.int 0, .int 0, .null, .null, .null, .null, .null, .null] j := by
  intro j hj
  rcases (show j = 0 ∨ j = 1 ∨ j = 2 ∨ j = 3 ∨ j = 4 ∨ j = 5 ∨ j = 6 ∨ j = 7 by omega) with rfl | rfl | rfl | rfl | rfl | rfl | rfl | rfl <;> rfl
theorem zt_X7 : Zx.tail.take 116 ++ ZX7.map (zsd 117) = Zx.tail.take 123 := by decide +kernel
theorem cn_X4 : zCN RX11 51 53 (yX4_init, cX4_init, 5, none) 7 := ⟨(z_tw 273 (by decide +kernel)), rfl, (z_tw 9 (by decide +kernel)), ⟨by decide, by decide⟩, by decide +kernel, rfl, (.inl (z_tw 271 (by decide +kernel))), (z_tw 272 (by decide +kernel)), (z_tw 269 (by decide +kernel)), (z_tw 270 (by decide +kernel))⟩
theorem df_X4 : ∀ j, j < 7 → defaultValue (tyX4 j) = vp_V [.null, .null, .null, .null, .int 0, .int 0, .int 0] j := by
  intro j hj
  rcases (show j = 0 ∨ j = 1 ∨ j = 2 ∨ j = 3 ∨ j = 4 ∨ j = 5 ∨ j = 6 by omega) with rfl | rfl | rfl | rfl | rfl | rfl | rfl <;> rfl
theorem zt_X4 : Zx.tail.take 123 ++ ZX4.map (zsd 124) = Zx.tail.take 134 := by decide +kernel
theorem cn_X9 : zCN RX11 58 60 (yX9_init, cX9_init, 1, none) 5 := ⟨(z_tw 308 (by decide +kernel)), rfl, (z_tw 10 (by decide +kernel)), ⟨by decide, by decide⟩, by decide +kernel, rfl, (.inl (z_tw 306 (by decide +kernel))), (z_tw 307 (by decide +kernel)), (z_tw 304 (by decide +kernel)), (z_tw 305 (by decide +kernel))⟩
theorem df_X9 : ∀ j, j < 5 → defaultValue (tyX9 j) = vp_V [.null, .null, .null, .null, .null] j := by
  intro j hj
  rcases (show j = 0 ∨ j = 1 ∨ j = 2 ∨ j = 3 ∨ j = 4 by omega) with rfl | rfl | rfl | rfl | rfl <;> rfl
theorem zt_X9 : Zx.tail.take 134 ++ ZX9.map (zsd 135) = Zx.tail.take 152 := by decide +kernel
theorem cn_X5 : zCN RX11 65 67 (yX5_init, cX5_init, 1, none) 9 := ⟨(z_tw 339 (by decide +kernel)), rfl, (z_tw 11 (by decide +kernel)), ⟨by decide, by decide⟩, by decide +kernel, rfl, (.inr ⟨"SmallMakers", (z_tw 337 (by decide +kernel))⟩), (z_tw 338 (by decide +kernel)), (z_tw 335 (by decide +kernel)), (z_tw 336 (by decide +kernel))⟩
theorem df_X5 : ∀ j, j < 9 → defaultValue (tyX5 j) = vp_V [.int 0, .null, .null, .null, .int 0, .int 0, .int 0, .null, .null] j := by
  intro j hj
  rcases (show j = 0 ∨ j = 1 ∨ j = 2 ∨ j = 3 ∨ j = 4 ∨ j = 5 ∨ j = 6 ∨ j = 7 ∨ j = 8 by omega) with rfl | rfl | rfl | rfl | rfl | rfl | rfl | rfl | rfl <;> rfl
theorem zt_X5 : Zx.tail.take 152 ++ ZX5.map (zsd 153) = Zx.tail.take 158 := by decide +kernel
theorem cn_X3 : zCN RX11 72 74 (yX3_init, cX3_init, 1, none) 4 := ⟨(z_tw 376 (by decide +kernel)), rfl, (z_tw 12 (by decide +kernel)), ⟨by decide, by decide⟩, by decide +kernel, rfl, (.inr ⟨"SmallMakers", (z_tw 374 (by decide +kernel))⟩), (z_tw 375 (by decide +kernel)), (z_tw 372 (by decide +kernel)), (z_tw 373 (by decide +kernel))⟩
theorem df_X3 : ∀ j, j < 4 → defaultValue (tyX3 j) = vp_V [.int 0, .null, .null, .null] j := by
  intro j hj
  rcases (show j = 0 ∨ j = 1 ∨ j = 2 ∨ j = 3 by omega) with rfl | rfl | rfl | rfl <;> rfl
theorem zt_X3 : Zx.tail.take 158 ++ ZX3.map (zsd 159) = Zx.tail.take 168 := by decide +kernel
theorem cn_X8 : zCN RX11 79 81 (yX8_init, cX8_init, 1, none) 2 := ⟨(z_tw 399 (by decide +kernel)), rfl, (z_tw 13 (by decide +kernel)), ⟨by decide, by decide⟩, by decide +kernel, rfl, (.inr ⟨"SmallMakers", (z_tw 397 (by decide +kernel))⟩), (z_tw 398 (by decide +kernel)), (z_tw 395 (by decide +kernel)), (z_tw 396 (by decide +kernel))⟩
theorem df_X8 : ∀ j, j < 2 → defaultValue (tyX8 j) = vp_V [.int 0, .null] j := by
  intro j hj
  rcases (show j = 0 ∨ j = 1 by omega) with rfl | rfl <;> rfl
theorem zt_X8 : Zx.tail.take 168 ++ ZX8.map (zsd 169) = Zx.tail.take 170 := by decide +kernel
theorem in0_of {μX1 : ZM} (hX1 : PX1 μX1) {μX6 : ZM} (hX6 : Zr μX6) {μX0 : ZM} (hX0 : Zr μX0) {μX2 : ZM} (hX2 : Zr μX2) {μX10 : ZM} (hX10 : Zr μX10) {μX7 : ZM} (hX7 : Zr μX7) {μX4 : ZM} (hX4 : PX4 μX4) {μX9 : ZM} (hX9 : PX9 μX9) {μX5 : ZM} (hX5 : Zr μX5) {μX3 : ZM} (hX3 : Zr μX3) {μX8 : ZM} (hX8 : Zr μX8) : In0 (zjn (zjn (zjn (zjn (zjn (zjn (zjn (zjn (zjn (zjn (zjn zM0 1 15 μX1) 16 4 μX6) 20 20 μX0) 40 21 μX2) 61 56 μX10) 117 7 μX7) 124 11 μX4) 135 18 μX9) 153 6 μX5) 159 10 μX3) 169 2 μX8) := by
  refine ⟨fun k hk => ?_, fun g hg => ?_, fun g hg => ?_, fun r hr q hq => ?_, fun t ht => ?_, fun q hq => ?_, fun a k a1 a2 a3 a4 a5 => ?_⟩
  · rw [zjn_1, if_neg (by omega), zjn_1, if_neg (by omega), zjn_1, if_neg (by omega), zjn_1, if_neg (by omega), zjn_1, if_neg (by omega), zjn_1, if_neg (by omega), zjn_1, if_neg (by omega), zjn_1, if_neg (by omega), zjn_1, if_neg (by omega), zjn_1, if_neg (by omega), zjn_1, if_pos (by omega)]
    exact hX1.1 k hk
  · rw [zjn_1, if_neg (by omega), zjn_1, if_neg (by omega), zjn_1, if_neg (by omega), zjn_1, if_neg (by omega), zjn_1, if_neg (by omega), zjn_1, if_neg (by omega), zjn_1, if_neg (by omega), zjn_1, if_neg (by omega), zjn_1, if_neg (by omega), zjn_1, if_neg (by omega), zjn_1, if_pos (by omega)]
    exact hX1.2.1 g hg
  · rw [zjn_1, if_neg (by omega), zjn_1, if_neg (by omega), zjn_1, if_neg (by omega), zjn_1, if_neg (by omega), zjn_1, if_neg (by omega), zjn_1, if_neg (by omega), zjn_1, if_neg (by omega), zjn_1, if_neg (by omega), zjn_1, if_neg (by omega), zjn_1, if_neg (by omega), zjn_1, if_pos (by omega)]
    exact hX1.2.2.1 g hg
  · rw [zjn_1, if_neg (by omega), zjn_1, if_neg (by omega), zjn_1, if_neg (by omega), zjn_1, if_neg (by omega), zjn_1, if_pos (by omega), show 126 + r - 124 = 2 + r by omega]
    exact hX4.1 r hr q hq
  · rw [zjn_1, if_neg (by omega), zjn_1, if_neg (by omega), zjn_1, if_neg (by omega), zjn_1, if_neg (by omega), zjn_1, if_pos (by omega)]
    exact hX4.2.1 t ht
  · rw [zjn_1, if_neg (by omega), zjn_1, if_neg (by omega), zjn_1, if_neg (by omega), zjn_1, if_pos (by omega)]
    exact hX9.1 q hq
  · rw [zjn_1]
    split
    · exact hX8 (a - 169) k
    rw [zjn_1]
    split
    · exact hX3 (a - 159) k
    rw [zjn_1]
    split
    · exact hX5 (a - 153) k
    rw [zjn_1]
    split
    · exact hX9.2 (a - 135) k (by omega)
    rw [zjn_1]
    split
    · exact hX4.2.2 (a - 124) k (by omega)
    rw [zjn_1]
    split
    · exact hX7 (a - 117) k
    rw [zjn_1]
    split
    · exact hX10 (a - 61) k
    rw [zjn_1]
    split
    · exact hX2 (a - 40) k
    rw [zjn_1]
    split
    · exact hX0 (a - 20) k
    rw [zjn_1]
    split
    · exact hX6 (a - 16) k
    rw [zjn_1]
    split
    · exact hX1.2.2.2 (a - 1) k (by omega) (by omega) (by omega)
    rfl
theorem zw_X11 (D : va_G) (ty : Nat → ClassId) (h : Nat) (μ : ZM) : zgw (D, ty, h) 11 [.ref (h + 1), .ref (h + 16), .ref (h + 20), .ref (h + 40), .ref (h + 61), .ref (h + 117), .ref (h + 124), .ref (h + 135), .ref (h + 153), .ref (h + 159), .ref (h + 169)] (Zx.tail.take 170) μ = zw (D, ty, h, Zx) μ := zgw_zw (fr := [some (some 1), some (some 16), some (some 20), some (some 40), some (some 61), some (some 117), some (some 124), some (some 135), some (some 153), some (some 159), some (some 169)]) (by rfl) (by decide +kernel)
set_option maxRecDepth 20000 in
theorem in_X11 (l : Launch) (D : va_G) (ty : Nat → ClassId) (h dd : Nat) : ZN l (D, ty, h, Zx) (dd + 1 + 1 + 1) 11 [.null, .null, .null, .null, .null, .null, .null, .null, .null, .null, .null] (yX11_init, cX11_init, 1, none) 170 1340 In0 := by
  refine ZN.of (by decide +kernel) rfl rfl (by decide) ?_
  intro p e s m args below meth c C hO hsz
  refine g_aload0 C dX11_init_0 ?_
  refine g_obj C (z_tw 23 (by decide +kernel)) (z_tw 24 (by decide +kernel)) (z_tw 25 (by decide +kernel)) ⟨by show 1 ≤ dd + 1 + 1 + 1; omega, by show 12 ≤ 40 * (dd + 1 + 1 + 1); omega⟩ dX11_init_1 ?_
  refine g_aload0 C dX11_init_4 ?_
  refine g_nest (d := dd + 1 + 1) (T := TX1) C hO hsz rfl (fun q => in_X1 l D ty q dd (P := PX1) tp_X1) cn_X1 rfl (z_lay inX1) tyX1 tyX1_ok df_X1 rfl (Nat.le_of_ble_eq_true rfl) (Nat.le_of_ble_eq_true rfl) (by show dd + 1 + 1 + 1 ≤ dd + 1 + 1 + 1; omega) (by show 8 + (1 + 11) + 40 * (dd + 1 + 1) ≤ 40 * (dd + 1 + 1 + 1); omega) dX11_init_5 dX11_init_8 dX11_init_9 (Nat.le_of_ble_eq_true rfl) (Nat.le_of_ble_eq_true rfl) (fun μX1 hX1 => ?_)
  show gW (D, ty, h) 171 1 11 p l e _ s m args below meth c _ 15 118 12 [.null, .null, .null, .null, .null, .null, .null, .null, .null, .null, .null] (Zx.tail.take 0 ++ ZX1.map (zsd 1)) (zjn zM0 1 15 μX1) [.ref (h + 1), .ref h]
  rw [zt_X1]
  refine g_put (k := 0) (T := TX11) (N := 11) (ty := (.object "SmallMakers$Drawing")) C zC11 (by decide) (by decide +kernel) (z_tw 409 (by decide +kernel)) rfl rfl rfl rfl (by show 0 < 11; decide) (Nat.le_of_ble_eq_true rfl) dX11_init_12 ?_
  show gW (D, ty, h) 171 1 11 p l e _ s m args below meth c _ 15 118 15 [.ref (h + 1), .null, .null, .null, .null, .null, .null, .null, .null, .null, .null] (Zx.tail.take 15) (zjn zM0 1 15 μX1) []
  refine g_aload0 C dX11_init_15 ?_
  refine g_nest (d := dd + 1 + 1) (T := TX6) C hO hsz rfl (fun q => in_X6 l D ty q dd (P := Zr) ⟨rfl, fun _ _ => rfl⟩) cn_X6 rfl (z_lay inX6) tyX6 tyX6_ok df_X6 rfl (Nat.le_of_ble_eq_true rfl) (Nat.le_of_ble_eq_true rfl) (by show dd + 1 + 1 + 1 ≤ dd + 1 + 1 + 1; omega) (by show 8 + (1 + 11) + 40 * (dd + 1 + 1) ≤ 40 * (dd + 1 + 1 + 1); omega) dX11_init_16 dX11_init_19 dX11_init_20 (Nat.le_of_ble_eq_true rfl) (Nat.le_of_ble_eq_true rfl) (fun μX6 hX6 => ?_)
  show gW (D, ty, h) 171 1 11 p l e _ s m args below meth c _ 19 180 23 [.ref (h + 1), .null, .null, .null, .null, .null, .null, .null, .null, .null, .null] (Zx.tail.take 15 ++ ZX6.map (zsd 16)) (zjn (zjn zM0 1 15 μX1) 16 4 μX6) [.ref (h + 16), .ref h]
  rw [zt_X6]
  refine g_put (k := 1) (T := TX11) (N := 11) (ty := (.object "SmallMakers$Page")) C zC11 (by decide) (by decide +kernel) (z_tw 410 (by decide +kernel)) rfl rfl rfl rfl (by show 1 < 11; decide) (Nat.le_of_ble_eq_true rfl) dX11_init_23 ?_
  show gW (D, ty, h) 171 1 11 p l e _ s m args below meth c _ 19 180 26 [.ref (h + 1), .ref (h + 16), .null, .null, .null, .null, .null, .null, .null, .null, .null] (Zx.tail.take 19) (zjn (zjn zM0 1 15 μX1) 16 4 μX6) []
  refine g_aload0 C dX11_init_26 ?_
  refine g_nest (d := dd + 1 + 1) (T := TX0) C hO hsz rfl (fun q => in_X0 l D ty q dd (P := Zr) ⟨rfl, fun _ _ => rfl⟩) cn_X0 rfl (z_lay inX0) tyX0 tyX0_ok df_X0 rfl (Nat.le_of_ble_eq_true rfl) (Nat.le_of_ble_eq_true rfl) (by show dd + 1 + 1 + 1 ≤ dd + 1 + 1 + 1; omega) (by show 8 + (1 + 11) + 40 * (dd + 1 + 1) ≤ 40 * (dd + 1 + 1 + 1); omega) dX11_init_27 dX11_init_30 dX11_init_31 (Nat.le_of_ble_eq_true rfl) (Nat.le_of_ble_eq_true rfl) (fun μX0 hX0 => ?_)
  show gW (D, ty, h) 171 1 11 p l e _ s m args below meth c _ 39 388 34 [.ref (h + 1), .ref (h + 16), .null, .null, .null, .null, .null, .null, .null, .null, .null] (Zx.tail.take 19 ++ ZX0.map (zsd 20)) (zjn (zjn (zjn zM0 1 15 μX1) 16 4 μX6) 20 20 μX0) [.ref (h + 20), .ref h]
  rw [zt_X0]
  refine g_put (k := 2) (T := TX11) (N := 11) (ty := (.object "SmallMakers$Chains")) C zC11 (by decide) (by decide +kernel) (z_tw 411 (by decide +kernel)) rfl rfl rfl rfl (by show 2 < 11; decide) (Nat.le_of_ble_eq_true rfl) dX11_init_34 ?_
  show gW (D, ty, h) 171 1 11 p l e _ s m args below meth c _ 39 388 37 [.ref (h + 1), .ref (h + 16), .ref (h + 20), .null, .null, .null, .null, .null, .null, .null, .null] (Zx.tail.take 39) (zjn (zjn (zjn zM0 1 15 μX1) 16 4 μX6) 20 20 μX0) []
  refine g_aload0 C dX11_init_37 ?_
  refine g_nest (d := dd + 1 + 1) (T := TX2) C hO hsz rfl (fun q => in_X2 l D ty q dd (P := Zr) ⟨rfl, fun _ _ => rfl⟩) cn_X2 rfl (z_lay inX2) tyX2 tyX2_ok df_X2 rfl (Nat.le_of_ble_eq_true rfl) (Nat.le_of_ble_eq_true rfl) (by show dd + 1 + 1 + 1 ≤ dd + 1 + 1 + 1; omega) (by show 8 + (1 + 11) + 40 * (dd + 1 + 1) ≤ 40 * (dd + 1 + 1 + 1); omega) dX11_init_38 dX11_init_41 dX11_init_42 (Nat.le_of_ble_eq_true rfl) (Nat.le_of_ble_eq_true rfl) (fun μX2 hX2 => ?_)
  show gW (D, ty, h) 171 1 11 p l e _ s m args below meth c _ 60 520 45 [.ref (h + 1), .ref (h + 16), .ref (h + 20), .null, .null, .null, .null, .null, .null, .null, .null] (Zx.tail.take 39 ++ ZX2.map (zsd 40)) (zjn (zjn (zjn (zjn zM0 1 15 μX1) 16 4 μX6) 20 20 μX0) 40 21 μX2) [.ref (h + 40), .ref h]
  rw [zt_X2]
  refine g_put (k := 3) (T := TX11) (N := 11) (ty := (.object "SmallMakers$GradeSearch")) C zC11 (by decide) (by decide +kernel) (z_tw 412 (by decide +kernel)) rfl rfl rfl rfl (by show 3 < 11; decide) (Nat.le_of_ble_eq_true rfl) dX11_init_45 ?_
  show gW (D, ty, h) 171 1 11 p l e _ s m args below meth c _ 60 520 48 [.ref (h + 1), .ref (h + 16), .ref (h + 20), .ref (h + 40), .null, .null, .null, .null, .null, .null, .null] (Zx.tail.take 60) (zjn (zjn (zjn (zjn zM0 1 15 μX1) 16 4 μX6) 20 20 μX0) 40 21 μX2) []
  refine g_aload0 C dX11_init_48 ?_
  refine g_nest (d := dd + 1 + 1) (T := TX10) C hO hsz rfl (fun q => in_X10 l D ty q dd (P := Zr) ⟨rfl, fun _ _ => rfl⟩) cn_X10 rfl (z_lay inX10) tyX10 tyX10_ok df_X10 rfl (Nat.le_of_ble_eq_true rfl) (Nat.le_of_ble_eq_true rfl) (by show dd + 1 + 1 + 1 ≤ dd + 1 + 1 + 1; omega) (by show 8 + (1 + 11) + 40 * (dd + 1 + 1) ≤ 40 * (dd + 1 + 1 + 1); omega) dX11_init_49 dX11_init_52 dX11_init_53 (Nat.le_of_ble_eq_true rfl) (Nat.le_of_ble_eq_true rfl) (fun μX10 hX10 => ?_)
  show gW (D, ty, h) 171 1 11 p l e _ s m args below meth c _ 116 841 56 [.ref (h + 1), .ref (h + 16), .ref (h + 20), .ref (h + 40), .null, .null, .null, .null, .null, .null, .null] (Zx.tail.take 60 ++ ZX10.map (zsd 61)) (zjn (zjn (zjn (zjn (zjn zM0 1 15 μX1) 16 4 μX6) 20 20 μX0) 40 21 μX2) 61 56 μX10) [.ref (h + 61), .ref h]
  rw [zt_X10]
  refine g_put (k := 4) (T := TX11) (N := 11) (ty := (.object "SmallMakers$Things")) C zC11 (by decide) (by decide +kernel) (z_tw 413 (by decide +kernel)) rfl rfl rfl rfl (by show 4 < 11; decide) (Nat.le_of_ble_eq_true rfl) dX11_init_56 ?_
  show gW (D, ty, h) 171 1 11 p l e _ s m args below meth c _ 116 841 59 [.ref (h + 1), .ref (h + 16), .ref (h + 20), .ref (h + 40), .ref (h + 61), .null, .null, .null, .null, .null, .null] (Zx.tail.take 116) (zjn (zjn (zjn (zjn (zjn zM0 1 15 μX1) 16 4 μX6) 20 20 μX0) 40 21 μX2) 61 56 μX10) []
  refine g_aload0 C dX11_init_59 ?_
  refine g_nest (d := dd + 1 + 1) (T := TX7) C hO hsz rfl (fun q => in_X7 l D ty q dd (P := Zr) ⟨rfl, fun _ _ => rfl⟩) cn_X7 rfl (z_lay inX7) tyX7 tyX7_ok df_X7 rfl (Nat.le_of_ble_eq_true rfl) (Nat.le_of_ble_eq_true rfl) (by show dd + 1 + 1 + 1 ≤ dd + 1 + 1 + 1; omega) (by show 8 + (1 + 11) + 40 * (dd + 1 + 1) ≤ 40 * (dd + 1 + 1 + 1); omega) dX11_init_60 dX11_init_63 dX11_init_64 (Nat.le_of_ble_eq_true rfl) (Nat.le_of_ble_eq_true rfl) (fun μX7 hX7 => ?_)
  show gW (D, ty, h) 171 1 11 p l e _ s m args below meth c _ 123 993 67 [.ref (h + 1), .ref (h + 16), .ref (h + 20), .ref (h + 40), .ref (h + 61), .null, .null, .null, .null, .null, .null] (Zx.tail.take 116 ++ ZX7.map (zsd 117)) (zjn (zjn (zjn (zjn (zjn (zjn zM0 1 15 μX1) 16 4 μX6) 20 20 μX0) 40 21 μX2) 61 56 μX10) 117 7 μX7) [.ref (h + 117), .ref h]
  rw [zt_X7]
  refine g_put (k := 5) (T := TX11) (N := 11) (ty := (.object "SmallMakers$Pairing")) C zC11 (by decide) (by decide +kernel) (z_tw 414 (by decide +kernel)) rfl rfl rfl rfl (by show 5 < 11; decide) (Nat.le_of_ble_eq_true rfl) dX11_init_67 ?_
  show gW (D, ty, h) 171 1 11 p l e _ s m args below meth c _ 123 993 70 [.ref (h + 1), .ref (h + 16), .ref (h + 20), .ref (h + 40), .ref (h + 61), .ref (h + 117), .null, .null, .null, .null, .null] (Zx.tail.take 123) (zjn (zjn (zjn (zjn (zjn (zjn zM0 1 15 μX1) 16 4 μX6) 20 20 μX0) 40 21 μX2) 61 56 μX10) 117 7 μX7) []
  refine g_aload0 C dX11_init_70 ?_
  refine g_nest (d := dd + 1 + 1) (T := TX4) C hO hsz rfl (fun q => in_X4 l D ty q dd (P := PX4) tp_X4) cn_X4 rfl (z_lay inX4) tyX4 tyX4_ok df_X4 rfl (Nat.le_of_ble_eq_true rfl) (Nat.le_of_ble_eq_true rfl) (by show dd + 1 + 1 + 1 ≤ dd + 1 + 1 + 1; omega) (by show 8 + (5 + 11) + 40 * (dd + 1 + 1) ≤ 40 * (dd + 1 + 1 + 1); omega) dX11_init_71 dX11_init_74 dX11_init_75 (Nat.le_of_ble_eq_true rfl) (Nat.le_of_ble_eq_true rfl) (fun μX4 hX4 => ?_)
  show gW (D, ty, h) 171 1 11 p l e _ s m args below meth c _ 134 1090 78 [.ref (h + 1), .ref (h + 16), .ref (h + 20), .ref (h + 40), .ref (h + 61), .ref (h + 117), .null, .null, .null, .null, .null] (Zx.tail.take 123 ++ ZX4.map (zsd 124)) (zjn (zjn (zjn (zjn (zjn (zjn (zjn zM0 1 15 μX1) 16 4 μX6) 20 20 μX0) 40 21 μX2) 61 56 μX10) 117 7 μX7) 124 11 μX4) [.ref (h + 124), .ref h]
  rw [zt_X4]
  refine g_put (k := 6) (T := TX11) (N := 11) (ty := (.object "SmallMakers$Machines")) C zC11 (by decide) (by decide +kernel) (z_tw 415 (by decide +kernel)) rfl rfl rfl rfl (by show 6 < 11; decide) (Nat.le_of_ble_eq_true rfl) dX11_init_78 ?_
  show gW (D, ty, h) 171 1 11 p l e _ s m args below meth c _ 134 1090 81 [.ref (h + 1), .ref (h + 16), .ref (h + 20), .ref (h + 40), .ref (h + 61), .ref (h + 117), .ref (h + 124), .null, .null, .null, .null] (Zx.tail.take 134) (zjn (zjn (zjn (zjn (zjn (zjn (zjn zM0 1 15 μX1) 16 4 μX6) 20 20 μX0) 40 21 μX2) 61 56 μX10) 117 7 μX7) 124 11 μX4) []
  refine g_aload0 C dX11_init_81 ?_
  refine g_nest (d := dd + 1 + 1) (T := TX9) C hO hsz rfl (fun q => in_X9 l D ty q dd (P := PX9) tp_X9) cn_X9 rfl (z_lay inX9) tyX9 tyX9_ok df_X9 rfl (Nat.le_of_ble_eq_true rfl) (Nat.le_of_ble_eq_true rfl) (by show dd + 1 + 1 + 1 ≤ dd + 1 + 1 + 1; omega) (by show 8 + (1 + 11) + 40 * (dd + 1 + 1) ≤ 40 * (dd + 1 + 1 + 1); omega) dX11_init_82 dX11_init_85 dX11_init_86 (Nat.le_of_ble_eq_true rfl) (Nat.le_of_ble_eq_true rfl) (fun μX9 hX9 => ?_)
  show gW (D, ty, h) 171 1 11 p l e _ s m args below meth c _ 152 1243 89 [.ref (h + 1), .ref (h + 16), .ref (h + 20), .ref (h + 40), .ref (h + 61), .ref (h + 117), .ref (h + 124), .null, .null, .null, .null] (Zx.tail.take 134 ++ ZX9.map (zsd 135)) (zjn (zjn (zjn (zjn (zjn (zjn (zjn (zjn zM0 1 15 μX1) 16 4 μX6) 20 20 μX0) 40 21 μX2) 61 56 μX10) 117 7 μX7) 124 11 μX4) 135 18 μX9) [.ref (h + 135), .ref h]
  rw [zt_X9]
  refine g_put (k := 7) (T := TX11) (N := 11) (ty := (.object "SmallMakers$Shops")) C zC11 (by decide) (by decide +kernel) (z_tw 416 (by decide +kernel)) rfl rfl rfl rfl (by show 7 < 11; decide) (Nat.le_of_ble_eq_true rfl) dX11_init_89 ?_
  show gW (D, ty, h) 171 1 11 p l e _ s m args below meth c _ 152 1243 92 [.ref (h + 1), .ref (h + 16), .ref (h + 20), .ref (h + 40), .ref (h + 61), .ref (h + 117), .ref (h + 124), .ref (h + 135), .null, .null, .null] (Zx.tail.take 152) (zjn (zjn (zjn (zjn (zjn (zjn (zjn (zjn zM0 1 15 μX1) 16 4 μX6) 20 20 μX0) 40 21 μX2) 61 56 μX10) 117 7 μX7) 124 11 μX4) 135 18 μX9) []
  refine g_aload0 C dX11_init_92 ?_
  refine g_nest (d := dd + 1 + 1) (T := TX5) C hO hsz rfl (fun q => in_X5 l D ty q dd (P := Zr) ⟨rfl, fun _ _ => rfl⟩) cn_X5 rfl (z_lay inX5) tyX5 tyX5_ok df_X5 rfl (Nat.le_of_ble_eq_true rfl) (Nat.le_of_ble_eq_true rfl) (by show dd + 1 + 1 + 1 ≤ dd + 1 + 1 + 1; omega) (by show 8 + (1 + 11) + 40 * (dd + 1 + 1) ≤ 40 * (dd + 1 + 1 + 1); omega) dX11_init_93 dX11_init_96 dX11_init_97 (Nat.le_of_ble_eq_true rfl) (Nat.le_of_ble_eq_true rfl) (fun μX5 hX5 => ?_)
  show gW (D, ty, h) 171 1 11 p l e _ s m args below meth c _ 158 1282 100 [.ref (h + 1), .ref (h + 16), .ref (h + 20), .ref (h + 40), .ref (h + 61), .ref (h + 117), .ref (h + 124), .ref (h + 135), .null, .null, .null] (Zx.tail.take 152 ++ ZX5.map (zsd 153)) (zjn (zjn (zjn (zjn (zjn (zjn (zjn (zjn (zjn zM0 1 15 μX1) 16 4 μX6) 20 20 μX0) 40 21 μX2) 61 56 μX10) 117 7 μX7) 124 11 μX4) 135 18 μX9) 153 6 μX5) [.ref (h + 153), .ref h]
  rw [zt_X5]
  refine g_put (k := 8) (T := TX11) (N := 11) (ty := (.object "SmallMakers$Orders")) C zC11 (by decide) (by decide +kernel) (z_tw 417 (by decide +kernel)) rfl rfl rfl rfl (by show 8 < 11; decide) (Nat.le_of_ble_eq_true rfl) dX11_init_100 ?_
  show gW (D, ty, h) 171 1 11 p l e _ s m args below meth c _ 158 1282 103 [.ref (h + 1), .ref (h + 16), .ref (h + 20), .ref (h + 40), .ref (h + 61), .ref (h + 117), .ref (h + 124), .ref (h + 135), .ref (h + 153), .null, .null] (Zx.tail.take 158) (zjn (zjn (zjn (zjn (zjn (zjn (zjn (zjn (zjn zM0 1 15 μX1) 16 4 μX6) 20 20 μX0) 40 21 μX2) 61 56 μX10) 117 7 μX7) 124 11 μX4) 135 18 μX9) 153 6 μX5) []
  refine g_aload0 C dX11_init_103 ?_
  refine g_nest (d := dd + 1 + 1) (T := TX3) C hO hsz rfl (fun q => in_X3 l D ty q dd (P := Zr) ⟨rfl, fun _ _ => rfl⟩) cn_X3 rfl (z_lay inX3) tyX3 tyX3_ok df_X3 rfl (Nat.le_of_ble_eq_true rfl) (Nat.le_of_ble_eq_true rfl) (by show dd + 1 + 1 + 1 ≤ dd + 1 + 1 + 1; omega) (by show 8 + (1 + 11) + 40 * (dd + 1 + 1) ≤ 40 * (dd + 1 + 1 + 1); omega) dX11_init_104 dX11_init_107 dX11_init_108 (Nat.le_of_ble_eq_true rfl) (Nat.le_of_ble_eq_true rfl) (fun μX3 hX3 => ?_)
  show gW (D, ty, h) 171 1 11 p l e _ s m args below meth c _ 168 1326 111 [.ref (h + 1), .ref (h + 16), .ref (h + 20), .ref (h + 40), .ref (h + 61), .ref (h + 117), .ref (h + 124), .ref (h + 135), .ref (h + 153), .null, .null] (Zx.tail.take 158 ++ ZX3.map (zsd 159)) (zjn (zjn (zjn (zjn (zjn (zjn (zjn (zjn (zjn (zjn zM0 1 15 μX1) 16 4 μX6) 20 20 μX0) 40 21 μX2) 61 56 μX10) 117 7 μX7) 124 11 μX4) 135 18 μX9) 153 6 μX5) 159 10 μX3) [.ref (h + 159), .ref h]
  rw [zt_X3]
  refine g_put (k := 9) (T := TX11) (N := 11) (ty := (.object "SmallMakers$Looks")) C zC11 (by decide) (by decide +kernel) (z_tw 418 (by decide +kernel)) rfl rfl rfl rfl (by show 9 < 11; decide) (Nat.le_of_ble_eq_true rfl) dX11_init_111 ?_
  show gW (D, ty, h) 171 1 11 p l e _ s m args below meth c _ 168 1326 114 [.ref (h + 1), .ref (h + 16), .ref (h + 20), .ref (h + 40), .ref (h + 61), .ref (h + 117), .ref (h + 124), .ref (h + 135), .ref (h + 153), .ref (h + 159), .null] (Zx.tail.take 168) (zjn (zjn (zjn (zjn (zjn (zjn (zjn (zjn (zjn (zjn zM0 1 15 μX1) 16 4 μX6) 20 20 μX0) 40 21 μX2) 61 56 μX10) 117 7 μX7) 124 11 μX4) 135 18 μX9) 153 6 μX5) 159 10 μX3) []
  refine g_aload0 C dX11_init_114 ?_
  refine g_nest (d := dd + 1 + 1) (T := TX8) C hO hsz rfl (fun q => in_X8 l D ty q dd (P := Zr) ⟨rfl, fun _ _ => rfl⟩) cn_X8 rfl (z_lay inX8) tyX8 tyX8_ok df_X8 rfl (Nat.le_of_ble_eq_true rfl) (Nat.le_of_ble_eq_true rfl) (by show dd + 1 + 1 + 1 ≤ dd + 1 + 1 + 1; omega) (by show 8 + (1 + 11) + 40 * (dd + 1 + 1) ≤ 40 * (dd + 1 + 1 + 1); omega) dX11_init_115 dX11_init_118 dX11_init_119 (Nat.le_of_ble_eq_true rfl) (Nat.le_of_ble_eq_true rfl) (fun μX8 hX8 => ?_)
  show gW (D, ty, h) 171 1 11 p l e _ s m args below meth c _ 170 1340 122 [.ref (h + 1), .ref (h + 16), .ref (h + 20), .ref (h + 40), .ref (h + 61), .ref (h + 117), .ref (h + 124), .ref (h + 135), .ref (h + 153), .ref (h + 159), .null] (Zx.tail.take 168 ++ ZX8.map (zsd 169)) (zjn (zjn (zjn (zjn (zjn (zjn (zjn (zjn (zjn (zjn (zjn zM0 1 15 μX1) 16 4 μX6) 20 20 μX0) 40 21 μX2) 61 56 μX10) 117 7 μX7) 124 11 μX4) 135 18 μX9) 153 6 μX5) 159 10 μX3) 169 2 μX8) [.ref (h + 169), .ref h]
  rw [zt_X8]
  refine g_put (k := 10) (T := TX11) (N := 11) (ty := (.object "SmallMakers$Row")) C zC11 (by decide) (by decide +kernel) (z_tw 419 (by decide +kernel)) rfl rfl rfl rfl (by show 10 < 11; decide) (Nat.le_of_ble_eq_true rfl) dX11_init_122 ?_
  show gW (D, ty, h) 171 1 11 p l e _ s m args below meth c _ 170 1340 125 [.ref (h + 1), .ref (h + 16), .ref (h + 20), .ref (h + 40), .ref (h + 61), .ref (h + 117), .ref (h + 124), .ref (h + 135), .ref (h + 153), .ref (h + 159), .ref (h + 169)] (Zx.tail.take 170) (zjn (zjn (zjn (zjn (zjn (zjn (zjn (zjn (zjn (zjn (zjn zM0 1 15 μX1) 16 4 μX6) 20 20 μX0) 40 21 μX2) 61 56 μX10) 117 7 μX7) 124 11 μX4) 135 18 μX9) 153 6 μX5) 159 10 μX3) 169 2 μX8) []
  exact g_tail (d := dd + 1 + 1) (n := 171) C (KK_met l (D, ty, h, Zx) (fun _ _ _ => .null) Zx_5 (dd + 1 + 1)) rfl rfl (zw_X11 D ty h _) (CS.retV dX11_init_125) ⟨rfl, in0_of hX1 hX6 hX0 hX2 hX10 hX7 hX4 hX9 hX5 hX3 hX8⟩
