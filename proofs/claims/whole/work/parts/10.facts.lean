/-! facts of the tables that the code rests on, by program -/
theorem kI_m1 : Int32.ofInt (-1) = ((-1) : Int32) := by decide
theorem kI_0 : Int32.ofInt 0 = (0 : Int32) := by decide
theorem kI_1 : Int32.ofInt 1 = (1 : Int32) := by decide
theorem kI_2 : Int32.ofInt 2 = (2 : Int32) := by decide
theorem kI_3 : Int32.ofInt 3 = (3 : Int32) := by decide
theorem kI_4 : Int32.ofInt 4 = (4 : Int32) := by decide
theorem kI_5 : Int32.ofInt 5 = (5 : Int32) := by decide
theorem kB_m104 : (Int8.ofInt (-104)).toInt32 = ((-104) : Int32) := by decide
theorem kB_m103 : (Int8.ofInt (-103)).toInt32 = ((-103) : Int32) := by decide
theorem kB_m102 : (Int8.ofInt (-102)).toInt32 = ((-102) : Int32) := by decide
theorem kB_m101 : (Int8.ofInt (-101)).toInt32 = ((-101) : Int32) := by decide
theorem kB_m4 : (Int8.ofInt (-4)).toInt32 = ((-4) : Int32) := by decide
theorem kB_6 : (Int8.ofInt 6).toInt32 = (6 : Int32) := by decide
theorem kB_7 : (Int8.ofInt 7).toInt32 = (7 : Int32) := by decide
theorem kB_8 : (Int8.ofInt 8).toInt32 = (8 : Int32) := by decide
theorem kB_9 : (Int8.ofInt 9).toInt32 = (9 : Int32) := by decide
theorem kB_10 : (Int8.ofInt 10).toInt32 = (10 : Int32) := by decide
theorem kB_11 : (Int8.ofInt 11).toInt32 = (11 : Int32) := by decide
theorem kB_12 : (Int8.ofInt 12).toInt32 = (12 : Int32) := by decide
theorem kB_15 : (Int8.ofInt 15).toInt32 = (15 : Int32) := by decide
theorem kB_16 : (Int8.ofInt 16).toInt32 = (16 : Int32) := by decide
theorem kB_20 : (Int8.ofInt 20).toInt32 = (20 : Int32) := by decide
theorem kB_24 : (Int8.ofInt 24).toInt32 = (24 : Int32) := by decide
theorem kB_25 : (Int8.ofInt 25).toInt32 = (25 : Int32) := by decide
theorem kB_30 : (Int8.ofInt 30).toInt32 = (30 : Int32) := by decide
theorem kB_33 : (Int8.ofInt 33).toInt32 = (33 : Int32) := by decide
theorem kB_40 : (Int8.ofInt 40).toInt32 = (40 : Int32) := by decide
theorem kB_43 : (Int8.ofInt 43).toInt32 = (43 : Int32) := by decide
theorem kB_45 : (Int8.ofInt 45).toInt32 = (45 : Int32) := by decide
theorem kB_48 : (Int8.ofInt 48).toInt32 = (48 : Int32) := by decide
theorem kB_49 : (Int8.ofInt 49).toInt32 = (49 : Int32) := by decide
theorem kB_50 : (Int8.ofInt 50).toInt32 = (50 : Int32) := by decide
theorem kB_57 : (Int8.ofInt 57).toInt32 = (57 : Int32) := by decide
theorem kB_60 : (Int8.ofInt 60).toInt32 = (60 : Int32) := by decide
theorem kB_61 : (Int8.ofInt 61).toInt32 = (61 : Int32) := by decide
theorem kB_63 : (Int8.ofInt 63).toInt32 = (63 : Int32) := by decide
theorem kB_97 : (Int8.ofInt 97).toInt32 = (97 : Int32) := by decide
theorem kB_99 : (Int8.ofInt 99).toInt32 = (99 : Int32) := by decide
theorem kB_100 : (Int8.ofInt 100).toInt32 = (100 : Int32) := by decide
theorem kB_104 : (Int8.ofInt 104).toInt32 = (104 : Int32) := by decide
theorem kB_126 : (Int8.ofInt 126).toInt32 = (126 : Int32) := by decide
theorem kS_m9999 : (Int16.ofInt (-9999)).toInt32 = ((-9999) : Int32) := by decide
theorem kS_m1002 : (Int16.ofInt (-1002)).toInt32 = ((-1002) : Int32) := by decide
theorem kS_m1001 : (Int16.ofInt (-1001)).toInt32 = ((-1001) : Int32) := by decide
theorem kS_m1000 : (Int16.ofInt (-1000)).toInt32 = ((-1000) : Int32) := by decide
theorem kS_999 : (Int16.ofInt 999).toInt32 = (999 : Int32) := by decide
theorem kS_1999 : (Int16.ofInt 1999).toInt32 = (1999 : Int32) := by decide
theorem kS_4096 : (Int16.ofInt 4096).toInt32 = (4096 : Int32) := by decide
theorem kS_9999 : (Int16.ofInt 9999).toInt32 = (9999 : Int32) := by decide
theorem kS_10000 : (Int16.ofInt 10000).toInt32 = (10000 : Int32) := by decide
theorem kJ_0 : Int64.ofNat ((0 : Fin 2) : Nat) = (0 : Int64) := by decide
theorem kJ_1 : Int64.ofNat ((1 : Fin 2) : Nat) = (1 : Int64) := by decide
theorem lc_J6_265 : Cond.constant RJ6 265 (1431655765 : Int32) ∈ lw_tbl := z_tw 823 (by decide +kernel)
theorem lc_J6_266 : Cond.constant RJ6 266 (858993459 : Int32) ∈ lw_tbl := z_tw 824 (by decide +kernel)
theorem lc_J6_267 : Cond.constant RJ6 267 (252645135 : Int32) ∈ lw_tbl := z_tw 825 (by decide +kernel)
theorem lc_X0_98 : Cond.constantLong RX0 98 ((-1) : Int64) ∈ lw_tbl := z_tw 623 (by decide +kernel)
theorem lc_X11_139 : Cond.constantLong RX11 139 (255 : Int64) ∈ lw_tbl := z_tw 513 (by decide +kernel)
theorem lc_X11_166 : Cond.constant RX11 166 ((-100001) : Int32) ∈ lw_tbl := z_tw 566 (by decide +kernel)
theorem lc_X11_167 : Cond.constant RX11 167 ((-100002) : Int32) ∈ lw_tbl := z_tw 567 (by decide +kernel)
theorem lc_X11_172 : Cond.constantLong RX11 172 ((-1) : Int64) ∈ lw_tbl := z_tw 592 (by decide +kernel)
theorem lc_X11_319 : Cond.constantLong RX11 319 (283 : Int64) ∈ lw_tbl := z_tw 986 (by decide +kernel)
theorem lc_X11_342 : Cond.constantLong RX11 342 (31 : Int64) ∈ lw_tbl := z_tw 994 (by decide +kernel)
theorem lc_X12_168 : Cond.constantLong RX12 168 (255 : Int64) ∈ lw_tbl := z_tw 1268 (by decide +kernel)
theorem lc_X12_201 : Cond.constant RX12 201 ((-100001) : Int32) ∈ lw_tbl := z_tw 1293 (by decide +kernel)
theorem lc_X12_205 : Cond.constant RX12 205 ((-100002) : Int32) ∈ lw_tbl := z_tw 1310 (by decide +kernel)
theorem lc_X12_206 : Cond.constantLong RX12 206 ((-1) : Int64) ∈ lw_tbl := z_tw 1315 (by decide +kernel)
theorem lc_X12_296 : Cond.constantLong RX12 296 (100 : Int64) ∈ lw_tbl := z_tw 1501 (by decide +kernel)
theorem lc_X12_313 : Cond.constantLong RX12 313 (31 : Int64) ∈ lw_tbl := z_tw 1543 (by decide +kernel)
theorem lc_X12_323 : Cond.constantLong RX12 323 (283 : Int64) ∈ lw_tbl := z_tw 1534 (by decide +kernel)
theorem lc_X3_51 : Cond.constantLong RX3 51 (100 : Int64) ∈ lw_tbl := z_tw 932 (by decide +kernel)
theorem fs_X0_9 : zFs RX0 9 0 1 (.array .int) := ⟨RX0, TX0, 8, zC0, by decide, by decide +kernel, (.inl (z_tw 122 (by decide +kernel))), by decide +kernel⟩
theorem fs_X0_15 : zFs RX0 15 0 2 (.array .int) := ⟨RX0, TX0, 8, zC0, by decide, by decide +kernel, (.inl (z_tw 124 (by decide +kernel))), by decide +kernel⟩
theorem fs_X0_18 : zFs RX0 18 0 3 (.array .int) := ⟨RX0, TX0, 8, zC0, by decide, by decide +kernel, (.inl (z_tw 126 (by decide +kernel))), by decide +kernel⟩
theorem fs_X0_23 : zFs RX0 23 0 4 (.array (.array .int)) := ⟨RX0, TX0, 8, zC0, by decide, by decide +kernel, (.inl (z_tw 128 (by decide +kernel))), by decide +kernel⟩
theorem fs_X0_26 : zFs RX0 26 0 5 (.array (.array .int)) := ⟨RX0, TX0, 8, zC0, by decide, by decide +kernel, (.inl (z_tw 130 (by decide +kernel))), by decide +kernel⟩
theorem fs_X0_29 : zFs RX0 29 0 6 (.array .long) := ⟨RX0, TX0, 8, zC0, by decide, by decide +kernel, (.inl (z_tw 132 (by decide +kernel))), by decide +kernel⟩
theorem fs_X0_33 : zFs RX0 33 0 7 (.array .long) := ⟨RX0, TX0, 8, zC0, by decide, by decide +kernel, (.inl (z_tw 133 (by decide +kernel))), by decide +kernel⟩
theorem fs_X0_36 : zFs RX0 36 0 0 .int := ⟨RX0, TX0, 8, zC0, by decide, by decide +kernel, (.inl (z_tw 118 (by decide +kernel))), by decide +kernel⟩
theorem fs_X0_40 : zFs RX0 40 6 4 .int := ⟨RX6, TX6, 10, zC6, by decide, by decide +kernel, (.inr ⟨"SmallMakers", (z_tw 77 (by decide +kernel))⟩), by decide +kernel⟩
theorem fs_X0_44 : zFs RX0 44 6 5 .int := ⟨RX6, TX6, 10, zC6, by decide, by decide +kernel, (.inr ⟨"SmallMakers", (z_tw 79 (by decide +kernel))⟩), by decide +kernel⟩
theorem fs_X0_46 : zFs RX0 46 6 6 .int := ⟨RX6, TX6, 10, zC6, by decide, by decide +kernel, (.inr ⟨"SmallMakers", (z_tw 82 (by decide +kernel))⟩), by decide +kernel⟩
theorem fs_X0_48 : zFs RX0 48 6 2 (.array .int) := ⟨RX6, TX6, 10, zC6, by decide, by decide +kernel, (.inr ⟨"SmallMakers", (z_tw 74 (by decide +kernel))⟩), by decide +kernel⟩
theorem fs_X0_56 : zFs RX0 56 6 3 (.array .int) := ⟨RX6, TX6, 10, zC6, by decide, by decide +kernel, (.inr ⟨"SmallMakers", (z_tw 76 (by decide +kernel))⟩), by decide +kernel⟩
theorem fs_X0_74 : zFs RX0 74 1 4 (.array .int) := ⟨RX1, TX1, 6, zC1, by decide, by decide +kernel, (.inr ⟨"SmallMakers", (z_tw 46 (by decide +kernel))⟩), by decide +kernel⟩
theorem fs_X0_77 : zFs RX0 77 1 2 (.array .int) := ⟨RX1, TX1, 6, zC1, by decide, by decide +kernel, (.inr ⟨"SmallMakers", (z_tw 41 (by decide +kernel))⟩), by decide +kernel⟩
theorem fs_X1_9 : zFs RX1 9 1 0 (.array .int) := ⟨RX1, TX1, 6, zC1, by decide, by decide +kernel, (.inl (z_tw 37 (by decide +kernel))), by decide +kernel⟩
theorem fs_X1_15 : zFs RX1 15 1 1 (.array .int) := ⟨RX1, TX1, 6, zC1, by decide, by decide +kernel, (.inl (z_tw 38 (by decide +kernel))), by decide +kernel⟩
theorem fs_X1_18 : zFs RX1 18 1 2 (.array .int) := ⟨RX1, TX1, 6, zC1, by decide, by decide +kernel, (.inl (z_tw 39 (by decide +kernel))), by decide +kernel⟩
theorem fs_X1_23 : zFs RX1 23 1 3 (.array (.array .int)) := ⟨RX1, TX1, 6, zC1, by decide, by decide +kernel, (.inl (z_tw 42 (by decide +kernel))), by decide +kernel⟩
theorem fs_X1_26 : zFs RX1 26 1 4 (.array .int) := ⟨RX1, TX1, 6, zC1, by decide, by decide +kernel, (.inl (z_tw 44 (by decide +kernel))), by decide +kernel⟩
theorem fs_X1_29 : zFs RX1 29 1 5 (.array .int) := ⟨RX1, TX1, 6, zC1, by decide, by decide +kernel, (.inl (z_tw 48 (by decide +kernel))), by decide +kernel⟩
theorem fs_X10_9 : zFs RX10 9 10 2 (.array .int) := ⟨RX10, TX10, 9, zC10, by decide, by decide +kernel, (.inl (z_tw 202 (by decide +kernel))), by decide +kernel⟩
theorem fs_X10_15 : zFs RX10 15 10 3 (.array .int) := ⟨RX10, TX10, 9, zC10, by decide, by decide +kernel, (.inl (z_tw 205 (by decide +kernel))), by decide +kernel⟩
theorem fs_X10_18 : zFs RX10 18 10 4 (.array .int) := ⟨RX10, TX10, 9, zC10, by decide, by decide +kernel, (.inl (z_tw 207 (by decide +kernel))), by decide +kernel⟩
theorem fs_X10_23 : zFs RX10 23 10 5 (.array (.array .int)) := ⟨RX10, TX10, 9, zC10, by decide, by decide +kernel, (.inl (z_tw 209 (by decide +kernel))), by decide +kernel⟩
theorem fs_X10_26 : zFs RX10 26 10 6 (.array (.array .int)) := ⟨RX10, TX10, 9, zC10, by decide, by decide +kernel, (.inl (z_tw 210 (by decide +kernel))), by decide +kernel⟩
theorem fs_X10_29 : zFs RX10 29 10 7 (.array .int) := ⟨RX10, TX10, 9, zC10, by decide, by decide +kernel, (.inl (z_tw 211 (by decide +kernel))), by decide +kernel⟩
theorem fs_X10_32 : zFs RX10 32 10 8 (.array .int) := ⟨RX10, TX10, 9, zC10, by decide, by decide +kernel, (.inl (z_tw 215 (by decide +kernel))), by decide +kernel⟩
theorem fs_X10_35 : zFs RX10 35 10 0 .int := ⟨RX10, TX10, 9, zC10, by decide, by decide +kernel, (.inl (z_tw 196 (by decide +kernel))), by decide +kernel⟩
theorem fs_X10_39 : zFs RX10 39 10 1 .int := ⟨RX10, TX10, 9, zC10, by decide, by decide +kernel, (.inl (z_tw 200 (by decide +kernel))), by decide +kernel⟩
theorem fs_X11_10 : zFs RX11 10 11 0 (.object "SmallMakers$Drawing") := ⟨RX11, TX11, 11, zC11, by decide, by decide +kernel, (.inl (z_tw 409 (by decide +kernel))), by decide +kernel⟩
theorem fs_X11_19 : zFs RX11 19 11 1 (.object "SmallMakers$Page") := ⟨RX11, TX11, 11, zC11, by decide, by decide +kernel, (.inl (z_tw 410 (by decide +kernel))), by decide +kernel⟩
theorem fs_X11_26 : zFs RX11 26 11 2 (.object "SmallMakers$Chains") := ⟨RX11, TX11, 11, zC11, by decide, by decide +kernel, (.inl (z_tw 411 (by decide +kernel))), by decide +kernel⟩
theorem fs_X11_33 : zFs RX11 33 11 3 (.object "SmallMakers$GradeSearch") := ⟨RX11, TX11, 11, zC11, by decide, by decide +kernel, (.inl (z_tw 412 (by decide +kernel))), by decide +kernel⟩
theorem fs_X11_40 : zFs RX11 40 11 4 (.object "SmallMakers$Things") := ⟨RX11, TX11, 11, zC11, by decide, by decide +kernel, (.inl (z_tw 413 (by decide +kernel))), by decide +kernel⟩
theorem fs_X11_47 : zFs RX11 47 11 5 (.object "SmallMakers$Pairing") := ⟨RX11, TX11, 11, zC11, by decide, by decide +kernel, (.inl (z_tw 414 (by decide +kernel))), by decide +kernel⟩
theorem fs_X11_54 : zFs RX11 54 11 6 (.object "SmallMakers$Machines") := ⟨RX11, TX11, 11, zC11, by decide, by decide +kernel, (.inl (z_tw 415 (by decide +kernel))), by decide +kernel⟩
theorem fs_X11_61 : zFs RX11 61 11 7 (.object "SmallMakers$Shops") := ⟨RX11, TX11, 11, zC11, by decide, by decide +kernel, (.inl (z_tw 416 (by decide +kernel))), by decide +kernel⟩
theorem fs_X11_68 : zFs RX11 68 11 8 (.object "SmallMakers$Orders") := ⟨RX11, TX11, 11, zC11, by decide, by decide +kernel, (.inl (z_tw 417 (by decide +kernel))), by decide +kernel⟩
theorem fs_X11_75 : zFs RX11 75 11 9 (.object "SmallMakers$Looks") := ⟨RX11, TX11, 11, zC11, by decide, by decide +kernel, (.inl (z_tw 418 (by decide +kernel))), by decide +kernel⟩
theorem fs_X11_82 : zFs RX11 82 11 10 (.object "SmallMakers$Row") := ⟨RX11, TX11, 11, zC11, by decide, by decide +kernel, (.inl (z_tw 419 (by decide +kernel))), by decide +kernel⟩
theorem fs_X11_116 : zFs RX11 116 1 4 (.array .int) := ⟨RX1, TX1, 6, zC1, by decide, by decide +kernel, (.inr ⟨"SmallMakers", (z_tw 47 (by decide +kernel))⟩), by decide +kernel⟩
theorem fs_X11_120 : zFs RX11 120 1 5 (.array .int) := ⟨RX1, TX1, 6, zC1, by decide, by decide +kernel, (.inr ⟨"SmallMakers", (z_tw 49 (by decide +kernel))⟩), by decide +kernel⟩
theorem fs_X11_127 : zFs RX11 127 1 3 (.array (.array .int)) := ⟨RX1, TX1, 6, zC1, by decide, by decide +kernel, (.inr ⟨"SmallMakers", (z_tw 43 (by decide +kernel))⟩), by decide +kernel⟩
theorem fs_X11_135 : zFs RX11 135 6 1 .int := ⟨RX6, TX6, 10, zC6, by decide, by decide +kernel, (.inr ⟨"SmallMakers", (z_tw 72 (by decide +kernel))⟩), by decide +kernel⟩
theorem fs_X11_148 : zFs RX11 148 6 7 .int := ⟨RX6, TX6, 10, zC6, by decide, by decide +kernel, (.inr ⟨"SmallMakers", (z_tw 86 (by decide +kernel))⟩), by decide +kernel⟩
theorem fs_X11_151 : zFs RX11 151 6 8 .boolean := ⟨RX6, TX6, 10, zC6, by decide, by decide +kernel, (.inr ⟨"SmallMakers", (z_tw 88 (by decide +kernel))⟩), by decide +kernel⟩
theorem fs_X11_155 : zFs RX11 155 6 5 .int := ⟨RX6, TX6, 10, zC6, by decide, by decide +kernel, (.inr ⟨"SmallMakers", (z_tw 81 (by decide +kernel))⟩), by decide +kernel⟩
theorem fs_X11_158 : zFs RX11 158 6 6 .int := ⟨RX6, TX6, 10, zC6, by decide, by decide +kernel, (.inr ⟨"SmallMakers", (z_tw 84 (by decide +kernel))⟩), by decide +kernel⟩
theorem fs_X11_161 : zFs RX11 161 0 0 .int := ⟨RX0, TX0, 8, zC0, by decide, by decide +kernel, (.inr ⟨"SmallMakers", (z_tw 121 (by decide +kernel))⟩), by decide +kernel⟩
theorem fs_X11_178 : zFs RX11 178 2 0 .int := ⟨RX2, TX2, 9, zC2, by decide, by decide +kernel, (.inr ⟨"SmallMakers", (z_tw 160 (by decide +kernel))⟩), by decide +kernel⟩
theorem fs_X11_185 : zFs RX11 185 2 1 .int := ⟨RX2, TX2, 9, zC2, by decide, by decide +kernel, (.inr ⟨"SmallMakers", (z_tw 162 (by decide +kernel))⟩), by decide +kernel⟩
theorem fs_X11_189 : zFs RX11 189 10 0 .int := ⟨RX10, TX10, 9, zC10, by decide, by decide +kernel, (.inr ⟨"SmallMakers", (z_tw 199 (by decide +kernel))⟩), by decide +kernel⟩
theorem fs_X11_192 : zFs RX11 192 10 4 (.array .int) := ⟨RX10, TX10, 9, zC10, by decide, by decide +kernel, (.inr ⟨"SmallMakers", (z_tw 208 (by decide +kernel))⟩), by decide +kernel⟩
theorem fs_X11_199 : zFs RX11 199 10 7 (.array .int) := ⟨RX10, TX10, 9, zC10, by decide, by decide +kernel, (.inr ⟨"SmallMakers", (z_tw 214 (by decide +kernel))⟩), by decide +kernel⟩
theorem fs_X11_202 : zFs RX11 202 10 8 (.array .int) := ⟨RX10, TX10, 9, zC10, by decide, by decide +kernel, (.inr ⟨"SmallMakers", (z_tw 218 (by decide +kernel))⟩), by decide +kernel⟩
theorem fs_X11_219 : zFs RX11 219 10 2 (.array .int) := ⟨RX10, TX10, 9, zC10, by decide, by decide +kernel, (.inr ⟨"SmallMakers", (z_tw 204 (by decide +kernel))⟩), by decide +kernel⟩
theorem fs_X11_225 : zFs RX11 225 4 0 (.array (.array .int)) := ⟨RX4, TX4, 7, zC4, by decide, by decide +kernel, (.inr ⟨"SmallMakers", (z_tw 278 (by decide +kernel))⟩), by decide +kernel⟩
theorem fs_X11_240 : zFs RX11 240 4 4 .int := ⟨RX4, TX4, 7, zC4, by decide, by decide +kernel, (.inr ⟨"SmallMakers", (z_tw 284 (by decide +kernel))⟩), by decide +kernel⟩
theorem fs_X11_243 : zFs RX11 243 4 5 .int := ⟨RX4, TX4, 7, zC4, by decide, by decide +kernel, (.inr ⟨"SmallMakers", (z_tw 286 (by decide +kernel))⟩), by decide +kernel⟩
theorem fs_X11_246 : zFs RX11 246 4 6 .int := ⟨RX4, TX4, 7, zC4, by decide, by decide +kernel, (.inr ⟨"SmallMakers", (z_tw 288 (by decide +kernel))⟩), by decide +kernel⟩
theorem fs_X11_249 : zFs RX11 249 4 2 (.array .int) := ⟨RX4, TX4, 7, zC4, by decide, by decide +kernel, (.inr ⟨"SmallMakers", (z_tw 281 (by decide +kernel))⟩), by decide +kernel⟩
theorem fs_X11_260 : zFs RX11 260 9 0 (.array .int) := ⟨RX9, TX9, 5, zC9, by decide, by decide +kernel, (.inr ⟨"SmallMakers", (z_tw 314 (by decide +kernel))⟩), by decide +kernel⟩
theorem fs_X11_263 : zFs RX11 263 9 2 (.array (.array .int)) := ⟨RX9, TX9, 5, zC9, by decide, by decide +kernel, (.inr ⟨"SmallMakers", (z_tw 320 (by decide +kernel))⟩), by decide +kernel⟩
theorem fs_X11_266 : zFs RX11 266 9 1 (.array (.array .int)) := ⟨RX9, TX9, 5, zC9, by decide, by decide +kernel, (.inr ⟨"SmallMakers", (z_tw 317 (by decide +kernel))⟩), by decide +kernel⟩
theorem fs_X11_269 : zFs RX11 269 5 0 .int := ⟨RX5, TX5, 9, zC5, by decide, by decide +kernel, (.inr ⟨"SmallMakers", (z_tw 342 (by decide +kernel))⟩), by decide +kernel⟩
theorem fs_X11_271 : zFs RX11 271 5 4 .int := ⟨RX5, TX5, 9, zC5, by decide, by decide +kernel, (.inr ⟨"SmallMakers", (z_tw 347 (by decide +kernel))⟩), by decide +kernel⟩
theorem fs_X11_282 : zFs RX11 282 5 5 .int := ⟨RX5, TX5, 9, zC5, by decide, by decide +kernel, (.inr ⟨"SmallMakers", (z_tw 349 (by decide +kernel))⟩), by decide +kernel⟩
theorem fs_X11_283 : zFs RX11 283 9 3 (.array .int) := ⟨RX9, TX9, 5, zC9, by decide, by decide +kernel, (.inr ⟨"SmallMakers", (z_tw 322 (by decide +kernel))⟩), by decide +kernel⟩
theorem fs_X11_292 : zFs RX11 292 3 0 .int := ⟨RX3, TX3, 4, zC3, by decide, by decide +kernel, (.inr ⟨"SmallMakers", (z_tw 380 (by decide +kernel))⟩), by decide +kernel⟩
theorem fs_X11_295 : zFs RX11 295 3 2 (.array (.array .int)) := ⟨RX3, TX3, 4, zC3, by decide, by decide +kernel, (.inr ⟨"SmallMakers", (z_tw 383 (by decide +kernel))⟩), by decide +kernel⟩
theorem fs_X11_298 : zFs RX11 298 3 3 (.array .int) := ⟨RX3, TX3, 4, zC3, by decide, by decide +kernel, (.inr ⟨"SmallMakers", (z_tw 385 (by decide +kernel))⟩), by decide +kernel⟩
theorem fs_X11_307 : zFs RX11 307 8 0 .int := ⟨RX8, TX8, 2, zC8, by decide, by decide +kernel, (.inr ⟨"SmallMakers", (z_tw 402 (by decide +kernel))⟩), by decide +kernel⟩
theorem fs_X11_316 : zFs RX11 316 10 1 .int := ⟨RX10, TX10, 9, zC10, by decide, by decide +kernel, (.inr ⟨"SmallMakers", (z_tw 201 (by decide +kernel))⟩), by decide +kernel⟩
theorem fs_X12_7 : zFs RX12 7 12 0 (.array .int) := ⟨RX12, TX12, 55, zC12, by decide, by decide +kernel, (.inl (z_tw 1051 (by decide +kernel))), by decide +kernel⟩
theorem fs_X12_13 : zFs RX12 13 12 1 (.array .int) := ⟨RX12, TX12, 55, zC12, by decide, by decide +kernel, (.inl (z_tw 1052 (by decide +kernel))), by decide +kernel⟩
theorem fs_X12_16 : zFs RX12 16 12 2 (.array .int) := ⟨RX12, TX12, 55, zC12, by decide, by decide +kernel, (.inl (z_tw 1053 (by decide +kernel))), by decide +kernel⟩
theorem fs_X12_19 : zFs RX12 19 12 3 (.array .int) := ⟨RX12, TX12, 55, zC12, by decide, by decide +kernel, (.inl (z_tw 1054 (by decide +kernel))), by decide +kernel⟩
theorem fs_X12_22 : zFs RX12 22 12 4 (.array .int) := ⟨RX12, TX12, 55, zC12, by decide, by decide +kernel, (.inl (z_tw 1055 (by decide +kernel))), by decide +kernel⟩
theorem fs_X12_25 : zFs RX12 25 12 5 (.array .int) := ⟨RX12, TX12, 55, zC12, by decide, by decide +kernel, (.inl (z_tw 1056 (by decide +kernel))), by decide +kernel⟩
theorem fs_X12_28 : zFs RX12 28 12 7 (.array .byte) := ⟨RX12, TX12, 55, zC12, by decide, by decide +kernel, (.inl (z_tw 1058 (by decide +kernel))), by decide +kernel⟩
theorem fs_X12_32 : zFs RX12 32 12 9 (.array .int) := ⟨RX12, TX12, 55, zC12, by decide, by decide +kernel, (.inl (z_tw 1060 (by decide +kernel))), by decide +kernel⟩
theorem fs_X12_35 : zFs RX12 35 12 10 (.array .int) := ⟨RX12, TX12, 55, zC12, by decide, by decide +kernel, (.inl (z_tw 1061 (by decide +kernel))), by decide +kernel⟩
theorem fs_X12_38 : zFs RX12 38 12 11 (.array .int) := ⟨RX12, TX12, 55, zC12, by decide, by decide +kernel, (.inl (z_tw 1062 (by decide +kernel))), by decide +kernel⟩
theorem fs_X12_41 : zFs RX12 41 12 12 (.array .int) := ⟨RX12, TX12, 55, zC12, by decide, by decide +kernel, (.inl (z_tw 1063 (by decide +kernel))), by decide +kernel⟩
theorem fs_X12_44 : zFs RX12 44 12 13 (.array .int) := ⟨RX12, TX12, 55, zC12, by decide, by decide +kernel, (.inl (z_tw 1064 (by decide +kernel))), by decide +kernel⟩
theorem fs_X12_47 : zFs RX12 47 12 16 (.array .int) := ⟨RX12, TX12, 55, zC12, by decide, by decide +kernel, (.inl (z_tw 1067 (by decide +kernel))), by decide +kernel⟩
theorem fs_X12_50 : zFs RX12 50 12 17 (.array .int) := ⟨RX12, TX12, 55, zC12, by decide, by decide +kernel, (.inl (z_tw 1068 (by decide +kernel))), by decide +kernel⟩
theorem fs_X12_53 : zFs RX12 53 12 18 (.array .int) := ⟨RX12, TX12, 55, zC12, by decide, by decide +kernel, (.inl (z_tw 1069 (by decide +kernel))), by decide +kernel⟩
theorem fs_X12_56 : zFs RX12 56 12 19 (.array .int) := ⟨RX12, TX12, 55, zC12, by decide, by decide +kernel, (.inl (z_tw 1070 (by decide +kernel))), by decide +kernel⟩
theorem fs_X12_59 : zFs RX12 59 12 20 (.array .int) := ⟨RX12, TX12, 55, zC12, by decide, by decide +kernel, (.inl (z_tw 1071 (by decide +kernel))), by decide +kernel⟩
theorem fs_X12_62 : zFs RX12 62 12 21 (.array .int) := ⟨RX12, TX12, 55, zC12, by decide, by decide +kernel, (.inl (z_tw 1072 (by decide +kernel))), by decide +kernel⟩
theorem fs_X12_65 : zFs RX12 65 12 22 (.array .int) := ⟨RX12, TX12, 55, zC12, by decide, by decide +kernel, (.inl (z_tw 1073 (by decide +kernel))), by decide +kernel⟩
theorem fs_X12_68 : zFs RX12 68 12 23 (.array .int) := ⟨RX12, TX12, 55, zC12, by decide, by decide +kernel, (.inl (z_tw 1074 (by decide +kernel))), by decide +kernel⟩
theorem fs_X12_71 : zFs RX12 71 12 24 (.array .int) := ⟨RX12, TX12, 55, zC12, by decide, by decide +kernel, (.inl (z_tw 1075 (by decide +kernel))), by decide +kernel⟩
theorem fs_X12_74 : zFs RX12 74 12 25 (.array .int) := ⟨RX12, TX12, 55, zC12, by decide, by decide +kernel, (.inl (z_tw 1076 (by decide +kernel))), by decide +kernel⟩
theorem fs_X12_77 : zFs RX12 77 12 27 (.array .int) := ⟨RX12, TX12, 55, zC12, by decide, by decide +kernel, (.inl (z_tw 1078 (by decide +kernel))), by decide +kernel⟩
theorem fs_X12_80 : zFs RX12 80 12 28 (.array .int) := ⟨RX12, TX12, 55, zC12, by decide, by decide +kernel, (.inl (z_tw 1079 (by decide +kernel))), by decide +kernel⟩
theorem fs_X12_83 : zFs RX12 83 12 30 (.array .int) := ⟨RX12, TX12, 55, zC12, by decide, by decide +kernel, (.inl (z_tw 1081 (by decide +kernel))), by decide +kernel⟩
theorem fs_X12_86 : zFs RX12 86 12 31 (.array .int) := ⟨RX12, TX12, 55, zC12, by decide, by decide +kernel, (.inl (z_tw 1082 (by decide +kernel))), by decide +kernel⟩
theorem fs_X12_89 : zFs RX12 89 12 33 (.array .int) := ⟨RX12, TX12, 55, zC12, by decide, by decide +kernel, (.inl (z_tw 1084 (by decide +kernel))), by decide +kernel⟩
theorem fs_X12_92 : zFs RX12 92 12 34 (.array .int) := ⟨RX12, TX12, 55, zC12, by decide, by decide +kernel, (.inl (z_tw 1085 (by decide +kernel))), by decide +kernel⟩
theorem fs_X12_95 : zFs RX12 95 12 35 (.array .int) := ⟨RX12, TX12, 55, zC12, by decide, by decide +kernel, (.inl (z_tw 1086 (by decide +kernel))), by decide +kernel⟩
theorem fs_X12_98 : zFs RX12 98 12 37 (.array .int) := ⟨RX12, TX12, 55, zC12, by decide, by decide +kernel, (.inl (z_tw 1088 (by decide +kernel))), by decide +kernel⟩
theorem fs_X12_101 : zFs RX12 101 12 41 (.array .int) := ⟨RX12, TX12, 55, zC12, by decide, by decide +kernel, (.inl (z_tw 1092 (by decide +kernel))), by decide +kernel⟩
theorem fs_X12_104 : zFs RX12 104 12 42 (.array .int) := ⟨RX12, TX12, 55, zC12, by decide, by decide +kernel, (.inl (z_tw 1093 (by decide +kernel))), by decide +kernel⟩
theorem fs_X12_107 : zFs RX12 107 12 43 (.array .int) := ⟨RX12, TX12, 55, zC12, by decide, by decide +kernel, (.inl (z_tw 1094 (by decide +kernel))), by decide +kernel⟩
theorem fs_X12_110 : zFs RX12 110 12 44 (.array .long) := ⟨RX12, TX12, 55, zC12, by decide, by decide +kernel, (.inl (z_tw 1095 (by decide +kernel))), by decide +kernel⟩
theorem fs_X12_114 : zFs RX12 114 12 45 (.array .long) := ⟨RX12, TX12, 55, zC12, by decide, by decide +kernel, (.inl (z_tw 1096 (by decide +kernel))), by decide +kernel⟩
theorem fs_X12_117 : zFs RX12 117 12 46 (.array .int) := ⟨RX12, TX12, 55, zC12, by decide, by decide +kernel, (.inl (z_tw 1097 (by decide +kernel))), by decide +kernel⟩
theorem fs_X12_120 : zFs RX12 120 12 47 (.array .boolean) := ⟨RX12, TX12, 55, zC12, by decide, by decide +kernel, (.inl (z_tw 1098 (by decide +kernel))), by decide +kernel⟩
theorem fs_X12_124 : zFs RX12 124 12 48 (.array .int) := ⟨RX12, TX12, 55, zC12, by decide, by decide +kernel, (.inl (z_tw 1099 (by decide +kernel))), by decide +kernel⟩
theorem fs_X12_127 : zFs RX12 127 12 49 (.array .boolean) := ⟨RX12, TX12, 55, zC12, by decide, by decide +kernel, (.inl (z_tw 1100 (by decide +kernel))), by decide +kernel⟩
theorem fs_X12_130 : zFs RX12 130 12 50 (.array .int) := ⟨RX12, TX12, 55, zC12, by decide, by decide +kernel, (.inl (z_tw 1101 (by decide +kernel))), by decide +kernel⟩
theorem fs_X12_133 : zFs RX12 133 12 51 (.array .int) := ⟨RX12, TX12, 55, zC12, by decide, by decide +kernel, (.inl (z_tw 1102 (by decide +kernel))), by decide +kernel⟩
theorem fs_X12_136 : zFs RX12 136 12 52 (.array .int) := ⟨RX12, TX12, 55, zC12, by decide, by decide +kernel, (.inl (z_tw 1103 (by decide +kernel))), by decide +kernel⟩
theorem fs_X12_139 : zFs RX12 139 12 53 (.array .int) := ⟨RX12, TX12, 55, zC12, by decide, by decide +kernel, (.inl (z_tw 1104 (by decide +kernel))), by decide +kernel⟩
theorem fs_X12_146 : zFs RX12 146 12 15 .int := ⟨RX12, TX12, 55, zC12, by decide, by decide +kernel, (.inl (z_tw 1066 (by decide +kernel))), by decide +kernel⟩
theorem fs_X12_170 : zFs RX12 170 12 6 .int := ⟨RX12, TX12, 55, zC12, by decide, by decide +kernel, (.inl (z_tw 1057 (by decide +kernel))), by decide +kernel⟩
theorem fs_X12_173 : zFs RX12 173 12 40 .int := ⟨RX12, TX12, 55, zC12, by decide, by decide +kernel, (.inl (z_tw 1091 (by decide +kernel))), by decide +kernel⟩
theorem fs_X12_176 : zFs RX12 176 12 38 .int := ⟨RX12, TX12, 55, zC12, by decide, by decide +kernel, (.inl (z_tw 1089 (by decide +kernel))), by decide +kernel⟩
theorem fs_X12_179 : zFs RX12 179 12 39 .boolean := ⟨RX12, TX12, 55, zC12, by decide, by decide +kernel, (.inl (z_tw 1090 (by decide +kernel))), by decide +kernel⟩
theorem fs_X12_186 : zFs RX12 186 12 8 .int := ⟨RX12, TX12, 55, zC12, by decide, by decide +kernel, (.inl (z_tw 1059 (by decide +kernel))), by decide +kernel⟩
theorem fs_X12_208 : zFs RX12 208 12 14 .int := ⟨RX12, TX12, 55, zC12, by decide, by decide +kernel, (.inl (z_tw 1065 (by decide +kernel))), by decide +kernel⟩
theorem fs_X12_278 : zFs RX12 278 12 26 .int := ⟨RX12, TX12, 55, zC12, by decide, by decide +kernel, (.inl (z_tw 1077 (by decide +kernel))), by decide +kernel⟩
theorem fs_X12_284 : zFs RX12 284 12 29 .int := ⟨RX12, TX12, 55, zC12, by decide, by decide +kernel, (.inl (z_tw 1080 (by decide +kernel))), by decide +kernel⟩
theorem fs_X12_293 : zFs RX12 293 12 32 .int := ⟨RX12, TX12, 55, zC12, by decide, by decide +kernel, (.inl (z_tw 1083 (by decide +kernel))), by decide +kernel⟩
theorem fs_X12_304 : zFs RX12 304 12 36 .int := ⟨RX12, TX12, 55, zC12, by decide, by decide +kernel, (.inl (z_tw 1087 (by decide +kernel))), by decide +kernel⟩
theorem fs_X12_315 : zFs RX12 315 12 54 .long := ⟨RX12, TX12, 55, zC12, by decide, by decide +kernel, (.inl (z_tw 1105 (by decide +kernel))), by decide +kernel⟩
theorem fs_X2_9 : zFs RX2 9 2 4 (.array .int) := ⟨RX2, TX2, 9, zC2, by decide, by decide +kernel, (.inl (z_tw 165 (by decide +kernel))), by decide +kernel⟩
theorem fs_X2_15 : zFs RX2 15 2 5 (.array .int) := ⟨RX2, TX2, 9, zC2, by decide, by decide +kernel, (.inl (z_tw 166 (by decide +kernel))), by decide +kernel⟩
theorem fs_X2_18 : zFs RX2 18 2 6 (.array .int) := ⟨RX2, TX2, 9, zC2, by decide, by decide +kernel, (.inl (z_tw 167 (by decide +kernel))), by decide +kernel⟩
theorem fs_X2_23 : zFs RX2 23 2 7 (.array (.array .int)) := ⟨RX2, TX2, 9, zC2, by decide, by decide +kernel, (.inl (z_tw 168 (by decide +kernel))), by decide +kernel⟩
theorem fs_X2_26 : zFs RX2 26 2 8 (.array (.array .int)) := ⟨RX2, TX2, 9, zC2, by decide, by decide +kernel, (.inl (z_tw 169 (by decide +kernel))), by decide +kernel⟩
theorem fs_X2_29 : zFs RX2 29 2 0 .int := ⟨RX2, TX2, 9, zC2, by decide, by decide +kernel, (.inl (z_tw 159 (by decide +kernel))), by decide +kernel⟩
theorem fs_X2_39 : zFs RX2 39 2 2 .int := ⟨RX2, TX2, 9, zC2, by decide, by decide +kernel, (.inl (z_tw 163 (by decide +kernel))), by decide +kernel⟩
theorem fs_X2_42 : zFs RX2 42 0 0 .int := ⟨RX0, TX0, 8, zC0, by decide, by decide +kernel, (.inr ⟨"SmallMakers", (z_tw 119 (by decide +kernel))⟩), by decide +kernel⟩
theorem fs_X2_45 : zFs RX2 45 2 3 .int := ⟨RX2, TX2, 9, zC2, by decide, by decide +kernel, (.inl (z_tw 164 (by decide +kernel))), by decide +kernel⟩
theorem fs_X2_48 : zFs RX2 48 2 1 .int := ⟨RX2, TX2, 9, zC2, by decide, by decide +kernel, (.inl (z_tw 161 (by decide +kernel))), by decide +kernel⟩
theorem fs_X2_66 : zFs RX2 66 1 4 (.array .int) := ⟨RX1, TX1, 6, zC1, by decide, by decide +kernel, (.inr ⟨"SmallMakers", (z_tw 45 (by decide +kernel))⟩), by decide +kernel⟩
theorem fs_X2_71 : zFs RX2 71 1 2 (.array .int) := ⟨RX1, TX1, 6, zC1, by decide, by decide +kernel, (.inr ⟨"SmallMakers", (z_tw 40 (by decide +kernel))⟩), by decide +kernel⟩
theorem fs_X3_9 : zFs RX3 9 3 1 (.array .int) := ⟨RX3, TX3, 4, zC3, by decide, by decide +kernel, (.inl (z_tw 381 (by decide +kernel))), by decide +kernel⟩
theorem fs_X3_17 : zFs RX3 17 3 2 (.array (.array .int)) := ⟨RX3, TX3, 4, zC3, by decide, by decide +kernel, (.inl (z_tw 382 (by decide +kernel))), by decide +kernel⟩
theorem fs_X3_20 : zFs RX3 20 3 3 (.array .int) := ⟨RX3, TX3, 4, zC3, by decide, by decide +kernel, (.inl (z_tw 384 (by decide +kernel))), by decide +kernel⟩
theorem fs_X3_23 : zFs RX3 23 3 0 .int := ⟨RX3, TX3, 4, zC3, by decide, by decide +kernel, (.inl (z_tw 379 (by decide +kernel))), by decide +kernel⟩
theorem fs_X4_11 : zFs RX4 11 4 0 (.array (.array .int)) := ⟨RX4, TX4, 7, zC4, by decide, by decide +kernel, (.inl (z_tw 277 (by decide +kernel))), by decide +kernel⟩
theorem fs_X4_16 : zFs RX4 16 4 1 (.array .int) := ⟨RX4, TX4, 7, zC4, by decide, by decide +kernel, (.inl (z_tw 279 (by decide +kernel))), by decide +kernel⟩
theorem fs_X4_20 : zFs RX4 20 4 2 (.array .int) := ⟨RX4, TX4, 7, zC4, by decide, by decide +kernel, (.inl (z_tw 280 (by decide +kernel))), by decide +kernel⟩
theorem fs_X4_23 : zFs RX4 23 4 3 (.array .int) := ⟨RX4, TX4, 7, zC4, by decide, by decide +kernel, (.inl (z_tw 282 (by decide +kernel))), by decide +kernel⟩
theorem fs_X4_40 : zFs RX4 40 0 1 (.array .int) := ⟨RX0, TX0, 8, zC0, by decide, by decide +kernel, (.inr ⟨"SmallMakers", (z_tw 123 (by decide +kernel))⟩), by decide +kernel⟩
theorem fs_X4_45 : zFs RX4 45 0 5 (.array (.array .int)) := ⟨RX0, TX0, 8, zC0, by decide, by decide +kernel, (.inr ⟨"SmallMakers", (z_tw 131 (by decide +kernel))⟩), by decide +kernel⟩
theorem fs_X4_48 : zFs RX4 48 10 0 .int := ⟨RX10, TX10, 9, zC10, by decide, by decide +kernel, (.inr ⟨"SmallMakers", (z_tw 198 (by decide +kernel))⟩), by decide +kernel⟩
theorem fs_X4_58 : zFs RX4 58 0 4 (.array (.array .int)) := ⟨RX0, TX0, 8, zC0, by decide, by decide +kernel, (.inr ⟨"SmallMakers", (z_tw 129 (by decide +kernel))⟩), by decide +kernel⟩
theorem fs_X4_61 : zFs RX4 61 10 8 (.array .int) := ⟨RX10, TX10, 9, zC10, by decide, by decide +kernel, (.inr ⟨"SmallMakers", (z_tw 217 (by decide +kernel))⟩), by decide +kernel⟩
theorem fs_X4_64 : zFs RX4 64 10 7 (.array .int) := ⟨RX10, TX10, 9, zC10, by decide, by decide +kernel, (.inr ⟨"SmallMakers", (z_tw 213 (by decide +kernel))⟩), by decide +kernel⟩
theorem fs_X4_67 : zFs RX4 67 0 2 (.array .int) := ⟨RX0, TX0, 8, zC0, by decide, by decide +kernel, (.inr ⟨"SmallMakers", (z_tw 125 (by decide +kernel))⟩), by decide +kernel⟩
theorem fs_X4_70 : zFs RX4 70 0 3 (.array .int) := ⟨RX0, TX0, 8, zC0, by decide, by decide +kernel, (.inr ⟨"SmallMakers", (z_tw 127 (by decide +kernel))⟩), by decide +kernel⟩
theorem fs_X4_73 : zFs RX4 73 0 0 .int := ⟨RX0, TX0, 8, zC0, by decide, by decide +kernel, (.inr ⟨"SmallMakers", (z_tw 120 (by decide +kernel))⟩), by decide +kernel⟩
theorem fs_X4_116 : zFs RX4 116 10 3 (.array .int) := ⟨RX10, TX10, 9, zC10, by decide, by decide +kernel, (.inr ⟨"SmallMakers", (z_tw 206 (by decide +kernel))⟩), by decide +kernel⟩
theorem fs_X5_9 : zFs RX5 9 5 1 (.array .int) := ⟨RX5, TX5, 9, zC5, by decide, by decide +kernel, (.inl (z_tw 343 (by decide +kernel))), by decide +kernel⟩
theorem fs_X5_15 : zFs RX5 15 5 2 (.array .int) := ⟨RX5, TX5, 9, zC5, by decide, by decide +kernel, (.inl (z_tw 344 (by decide +kernel))), by decide +kernel⟩
theorem fs_X5_18 : zFs RX5 18 5 3 (.array .int) := ⟨RX5, TX5, 9, zC5, by decide, by decide +kernel, (.inl (z_tw 345 (by decide +kernel))), by decide +kernel⟩
theorem fs_X5_21 : zFs RX5 21 5 7 (.array .int) := ⟨RX5, TX5, 9, zC5, by decide, by decide +kernel, (.inl (z_tw 351 (by decide +kernel))), by decide +kernel⟩
theorem fs_X5_24 : zFs RX5 24 5 8 (.array .int) := ⟨RX5, TX5, 9, zC5, by decide, by decide +kernel, (.inl (z_tw 352 (by decide +kernel))), by decide +kernel⟩
theorem fs_X5_27 : zFs RX5 27 5 0 .int := ⟨RX5, TX5, 9, zC5, by decide, by decide +kernel, (.inl (z_tw 341 (by decide +kernel))), by decide +kernel⟩
theorem fs_X5_31 : zFs RX5 31 5 4 .int := ⟨RX5, TX5, 9, zC5, by decide, by decide +kernel, (.inl (z_tw 346 (by decide +kernel))), by decide +kernel⟩
theorem fs_X5_34 : zFs RX5 34 5 6 .int := ⟨RX5, TX5, 9, zC5, by decide, by decide +kernel, (.inl (z_tw 350 (by decide +kernel))), by decide +kernel⟩
theorem fs_X5_37 : zFs RX5 37 5 5 .int := ⟨RX5, TX5, 9, zC5, by decide, by decide +kernel, (.inl (z_tw 348 (by decide +kernel))), by decide +kernel⟩
theorem fs_X5_50 : zFs RX5 50 9 1 (.array (.array .int)) := ⟨RX9, TX9, 5, zC9, by decide, by decide +kernel, (.inr ⟨"SmallMakers", (z_tw 316 (by decide +kernel))⟩), by decide +kernel⟩
theorem fs_X5_60 : zFs RX5 60 9 2 (.array (.array .int)) := ⟨RX9, TX9, 5, zC9, by decide, by decide +kernel, (.inr ⟨"SmallMakers", (z_tw 319 (by decide +kernel))⟩), by decide +kernel⟩
theorem fs_X5_63 : zFs RX5 63 9 0 (.array .int) := ⟨RX9, TX9, 5, zC9, by decide, by decide +kernel, (.inr ⟨"SmallMakers", (z_tw 313 (by decide +kernel))⟩), by decide +kernel⟩
theorem fs_X6_9 : zFs RX6 9 6 0 (.array .int) := ⟨RX6, TX6, 10, zC6, by decide, by decide +kernel, (.inl (z_tw 70 (by decide +kernel))), by decide +kernel⟩
theorem fs_X6_15 : zFs RX6 15 6 2 (.array .int) := ⟨RX6, TX6, 10, zC6, by decide, by decide +kernel, (.inl (z_tw 73 (by decide +kernel))), by decide +kernel⟩
theorem fs_X6_18 : zFs RX6 18 6 3 (.array .int) := ⟨RX6, TX6, 10, zC6, by decide, by decide +kernel, (.inl (z_tw 75 (by decide +kernel))), by decide +kernel⟩
theorem fs_X6_21 : zFs RX6 21 6 1 .int := ⟨RX6, TX6, 10, zC6, by decide, by decide +kernel, (.inl (z_tw 71 (by decide +kernel))), by decide +kernel⟩
theorem fs_X6_25 : zFs RX6 25 6 7 .int := ⟨RX6, TX6, 10, zC6, by decide, by decide +kernel, (.inl (z_tw 85 (by decide +kernel))), by decide +kernel⟩
theorem fs_X6_28 : zFs RX6 28 6 4 .int := ⟨RX6, TX6, 10, zC6, by decide, by decide +kernel, (.inl (z_tw 78 (by decide +kernel))), by decide +kernel⟩
theorem fs_X6_49 : zFs RX6 49 6 9 .int := ⟨RX6, TX6, 10, zC6, by decide, by decide +kernel, (.inl (z_tw 89 (by decide +kernel))), by decide +kernel⟩
theorem fs_X7_9 : zFs RX7 9 7 2 (.array .int) := ⟨RX7, TX7, 8, zC7, by decide, by decide +kernel, (.inl (z_tw 246 (by decide +kernel))), by decide +kernel⟩
theorem fs_X7_15 : zFs RX7 15 7 3 (.array .int) := ⟨RX7, TX7, 8, zC7, by decide, by decide +kernel, (.inl (z_tw 247 (by decide +kernel))), by decide +kernel⟩
theorem fs_X7_18 : zFs RX7 18 7 4 (.array .int) := ⟨RX7, TX7, 8, zC7, by decide, by decide +kernel, (.inl (z_tw 248 (by decide +kernel))), by decide +kernel⟩
theorem fs_X7_21 : zFs RX7 21 7 5 (.array .int) := ⟨RX7, TX7, 8, zC7, by decide, by decide +kernel, (.inl (z_tw 249 (by decide +kernel))), by decide +kernel⟩
theorem fs_X7_24 : zFs RX7 24 7 6 (.array .int) := ⟨RX7, TX7, 8, zC7, by decide, by decide +kernel, (.inl (z_tw 250 (by decide +kernel))), by decide +kernel⟩
theorem fs_X7_27 : zFs RX7 27 7 7 (.array .int) := ⟨RX7, TX7, 8, zC7, by decide, by decide +kernel, (.inl (z_tw 251 (by decide +kernel))), by decide +kernel⟩
theorem fs_X7_30 : zFs RX7 30 10 0 .int := ⟨RX10, TX10, 9, zC10, by decide, by decide +kernel, (.inr ⟨"SmallMakers", (z_tw 197 (by decide +kernel))⟩), by decide +kernel⟩
theorem fs_X7_36 : zFs RX7 36 7 0 .int := ⟨RX7, TX7, 8, zC7, by decide, by decide +kernel, (.inl (z_tw 244 (by decide +kernel))), by decide +kernel⟩
theorem fs_X7_37 : zFs RX7 37 7 1 .int := ⟨RX7, TX7, 8, zC7, by decide, by decide +kernel, (.inl (z_tw 245 (by decide +kernel))), by decide +kernel⟩
theorem fs_X7_46 : zFs RX7 46 10 2 (.array .int) := ⟨RX10, TX10, 9, zC10, by decide, by decide +kernel, (.inr ⟨"SmallMakers", (z_tw 203 (by decide +kernel))⟩), by decide +kernel⟩
theorem fs_X7_59 : zFs RX7 59 10 7 (.array .int) := ⟨RX10, TX10, 9, zC10, by decide, by decide +kernel, (.inr ⟨"SmallMakers", (z_tw 212 (by decide +kernel))⟩), by decide +kernel⟩
theorem fs_X7_62 : zFs RX7 62 10 8 (.array .int) := ⟨RX10, TX10, 9, zC10, by decide, by decide +kernel, (.inr ⟨"SmallMakers", (z_tw 216 (by decide +kernel))⟩), by decide +kernel⟩
theorem fs_X8_9 : zFs RX8 9 8 1 (.array .int) := ⟨RX8, TX8, 2, zC8, by decide, by decide +kernel, (.inl (z_tw 403 (by decide +kernel))), by decide +kernel⟩
theorem fs_X8_15 : zFs RX8 15 8 0 .int := ⟨RX8, TX8, 2, zC8, by decide, by decide +kernel, (.inl (z_tw 401 (by decide +kernel))), by decide +kernel⟩
theorem fs_X9_9 : zFs RX9 9 9 0 (.array .int) := ⟨RX9, TX9, 5, zC9, by decide, by decide +kernel, (.inl (z_tw 312 (by decide +kernel))), by decide +kernel⟩
theorem fs_X9_17 : zFs RX9 17 9 1 (.array (.array .int)) := ⟨RX9, TX9, 5, zC9, by decide, by decide +kernel, (.inl (z_tw 315 (by decide +kernel))), by decide +kernel⟩
theorem fs_X9_20 : zFs RX9 20 9 2 (.array (.array .int)) := ⟨RX9, TX9, 5, zC9, by decide, by decide +kernel, (.inl (z_tw 318 (by decide +kernel))), by decide +kernel⟩
theorem fs_X9_23 : zFs RX9 23 9 3 (.array .int) := ⟨RX9, TX9, 5, zC9, by decide, by decide +kernel, (.inl (z_tw 321 (by decide +kernel))), by decide +kernel⟩
theorem fs_X9_26 : zFs RX9 26 9 4 (.array (.array .int)) := ⟨RX9, TX9, 5, zC9, by decide, by decide +kernel, (.inl (z_tw 323 (by decide +kernel))), by decide +kernel⟩
theorem fp_X0_36 : zFp RX0 36 0 0 .int := ⟨RX0, TX0, 8, zC0, by decide, by decide +kernel, (.inl (z_tw 118 (by decide +kernel))), by decide +kernel, by decide +kernel⟩
theorem fp_X10_35 : zFp RX10 35 10 0 .int := ⟨RX10, TX10, 9, zC10, by decide, by decide +kernel, (.inl (z_tw 196 (by decide +kernel))), by decide +kernel, by decide +kernel⟩
theorem fp_X10_39 : zFp RX10 39 10 1 .int := ⟨RX10, TX10, 9, zC10, by decide, by decide +kernel, (.inl (z_tw 200 (by decide +kernel))), by decide +kernel, by decide +kernel⟩
theorem fp_X11_135 : zFp RX11 135 6 1 .int := ⟨RX6, TX6, 10, zC6, by decide, by decide +kernel, (.inr ⟨"SmallMakers", (z_tw 72 (by decide +kernel))⟩), by decide +kernel, by decide +kernel⟩
theorem fp_X11_307 : zFp RX11 307 8 0 .int := ⟨RX8, TX8, 2, zC8, by decide, by decide +kernel, (.inr ⟨"SmallMakers", (z_tw 402 (by decide +kernel))⟩), by decide +kernel, by decide +kernel⟩
theorem fp_X12_146 : zFp RX12 146 12 15 .int := ⟨RX12, TX12, 55, zC12, by decide, by decide +kernel, (.inl (z_tw 1066 (by decide +kernel))), by decide +kernel, by decide +kernel⟩
theorem fp_X12_170 : zFp RX12 170 12 6 .int := ⟨RX12, TX12, 55, zC12, by decide, by decide +kernel, (.inl (z_tw 1057 (by decide +kernel))), by decide +kernel, by decide +kernel⟩
theorem fp_X12_173 : zFp RX12 173 12 40 .int := ⟨RX12, TX12, 55, zC12, by decide, by decide +kernel, (.inl (z_tw 1091 (by decide +kernel))), by decide +kernel, by decide +kernel⟩
theorem fp_X12_176 : zFp RX12 176 12 38 .int := ⟨RX12, TX12, 55, zC12, by decide, by decide +kernel, (.inl (z_tw 1089 (by decide +kernel))), by decide +kernel, by decide +kernel⟩
theorem fp_X12_179 : zFp RX12 179 12 39 .boolean := ⟨RX12, TX12, 55, zC12, by decide, by decide +kernel, (.inl (z_tw 1090 (by decide +kernel))), by decide +kernel, by decide +kernel⟩
theorem fp_X12_186 : zFp RX12 186 12 8 .int := ⟨RX12, TX12, 55, zC12, by decide, by decide +kernel, (.inl (z_tw 1059 (by decide +kernel))), by decide +kernel, by decide +kernel⟩
theorem fp_X12_208 : zFp RX12 208 12 14 .int := ⟨RX12, TX12, 55, zC12, by decide, by decide +kernel, (.inl (z_tw 1065 (by decide +kernel))), by decide +kernel, by decide +kernel⟩
theorem fp_X12_278 : zFp RX12 278 12 26 .int := ⟨RX12, TX12, 55, zC12, by decide, by decide +kernel, (.inl (z_tw 1077 (by decide +kernel))), by decide +kernel, by decide +kernel⟩
theorem fp_X12_284 : zFp RX12 284 12 29 .int := ⟨RX12, TX12, 55, zC12, by decide, by decide +kernel, (.inl (z_tw 1080 (by decide +kernel))), by decide +kernel, by decide +kernel⟩
theorem fp_X12_293 : zFp RX12 293 12 32 .int := ⟨RX12, TX12, 55, zC12, by decide, by decide +kernel, (.inl (z_tw 1083 (by decide +kernel))), by decide +kernel, by decide +kernel⟩
theorem fp_X12_304 : zFp RX12 304 12 36 .int := ⟨RX12, TX12, 55, zC12, by decide, by decide +kernel, (.inl (z_tw 1087 (by decide +kernel))), by decide +kernel, by decide +kernel⟩
theorem fp_X12_315 : zFp RX12 315 12 54 .long := ⟨RX12, TX12, 55, zC12, by decide, by decide +kernel, (.inl (z_tw 1105 (by decide +kernel))), by decide +kernel, by decide +kernel⟩
theorem fp_X2_29 : zFp RX2 29 2 0 .int := ⟨RX2, TX2, 9, zC2, by decide, by decide +kernel, (.inl (z_tw 159 (by decide +kernel))), by decide +kernel, by decide +kernel⟩
theorem fp_X2_39 : zFp RX2 39 2 2 .int := ⟨RX2, TX2, 9, zC2, by decide, by decide +kernel, (.inl (z_tw 163 (by decide +kernel))), by decide +kernel, by decide +kernel⟩
theorem fp_X2_45 : zFp RX2 45 2 3 .int := ⟨RX2, TX2, 9, zC2, by decide, by decide +kernel, (.inl (z_tw 164 (by decide +kernel))), by decide +kernel, by decide +kernel⟩
theorem fp_X2_48 : zFp RX2 48 2 1 .int := ⟨RX2, TX2, 9, zC2, by decide, by decide +kernel, (.inl (z_tw 161 (by decide +kernel))), by decide +kernel, by decide +kernel⟩
theorem fp_X3_23 : zFp RX3 23 3 0 .int := ⟨RX3, TX3, 4, zC3, by decide, by decide +kernel, (.inl (z_tw 379 (by decide +kernel))), by decide +kernel, by decide +kernel⟩
theorem fp_X4_90 : zFp RX4 90 4 4 .int := ⟨RX4, TX4, 7, zC4, by decide, by decide +kernel, (.inl (z_tw 283 (by decide +kernel))), by decide +kernel, by decide +kernel⟩
theorem fp_X4_93 : zFp RX4 93 4 5 .int := ⟨RX4, TX4, 7, zC4, by decide, by decide +kernel, (.inl (z_tw 285 (by decide +kernel))), by decide +kernel, by decide +kernel⟩
theorem fp_X4_96 : zFp RX4 96 4 6 .int := ⟨RX4, TX4, 7, zC4, by decide, by decide +kernel, (.inl (z_tw 287 (by decide +kernel))), by decide +kernel, by decide +kernel⟩
theorem fp_X5_27 : zFp RX5 27 5 0 .int := ⟨RX5, TX5, 9, zC5, by decide, by decide +kernel, (.inl (z_tw 341 (by decide +kernel))), by decide +kernel, by decide +kernel⟩
theorem fp_X5_31 : zFp RX5 31 5 4 .int := ⟨RX5, TX5, 9, zC5, by decide, by decide +kernel, (.inl (z_tw 346 (by decide +kernel))), by decide +kernel, by decide +kernel⟩
theorem fp_X5_34 : zFp RX5 34 5 6 .int := ⟨RX5, TX5, 9, zC5, by decide, by decide +kernel, (.inl (z_tw 350 (by decide +kernel))), by decide +kernel, by decide +kernel⟩
theorem fp_X5_37 : zFp RX5 37 5 5 .int := ⟨RX5, TX5, 9, zC5, by decide, by decide +kernel, (.inl (z_tw 348 (by decide +kernel))), by decide +kernel, by decide +kernel⟩
theorem fp_X6_21 : zFp RX6 21 6 1 .int := ⟨RX6, TX6, 10, zC6, by decide, by decide +kernel, (.inl (z_tw 71 (by decide +kernel))), by decide +kernel, by decide +kernel⟩
theorem fp_X6_25 : zFp RX6 25 6 7 .int := ⟨RX6, TX6, 10, zC6, by decide, by decide +kernel, (.inl (z_tw 85 (by decide +kernel))), by decide +kernel, by decide +kernel⟩
theorem fp_X6_28 : zFp RX6 28 6 4 .int := ⟨RX6, TX6, 10, zC6, by decide, by decide +kernel, (.inl (z_tw 78 (by decide +kernel))), by decide +kernel, by decide +kernel⟩
theorem fp_X6_31 : zFp RX6 31 6 8 .boolean := ⟨RX6, TX6, 10, zC6, by decide, by decide +kernel, (.inl (z_tw 87 (by decide +kernel))), by decide +kernel, by decide +kernel⟩
theorem fp_X6_49 : zFp RX6 49 6 9 .int := ⟨RX6, TX6, 10, zC6, by decide, by decide +kernel, (.inl (z_tw 89 (by decide +kernel))), by decide +kernel, by decide +kernel⟩
theorem fp_X6_52 : zFp RX6 52 6 5 .int := ⟨RX6, TX6, 10, zC6, by decide, by decide +kernel, (.inl (z_tw 80 (by decide +kernel))), by decide +kernel, by decide +kernel⟩
theorem fp_X6_55 : zFp RX6 55 6 6 .int := ⟨RX6, TX6, 10, zC6, by decide, by decide +kernel, (.inl (z_tw 83 (by decide +kernel))), by decide +kernel, by decide +kernel⟩
theorem fp_X7_36 : zFp RX7 36 7 0 .int := ⟨RX7, TX7, 8, zC7, by decide, by decide +kernel, (.inl (z_tw 244 (by decide +kernel))), by decide +kernel, by decide +kernel⟩
theorem fp_X7_37 : zFp RX7 37 7 1 .int := ⟨RX7, TX7, 8, zC7, by decide, by decide +kernel, (.inl (z_tw 245 (by decide +kernel))), by decide +kernel, by decide +kernel⟩
theorem fp_X8_15 : zFp RX8 15 8 0 .int := ⟨RX8, TX8, 2, zC8, by decide, by decide +kernel, (.inl (z_tw 401 (by decide +kernel))), by decide +kernel, by decide +kernel⟩
theorem zi_0 : zinfo 0 = (yX0_add, cX0_add, 2, none) := rfl
theorem zi_1 : zinfo 1 = (yX0_about, cX0_about, 6, some .int) := rfl
theorem zi_2 : zinfo 2 = (yX0_gapOf, cX0_gapOf, 5, some .int) := rfl
theorem zi_3 : zinfo 3 = (yX0_spansOf, cX0_spansOf, 5, some .int) := rfl
theorem zi_4 : zinfo 4 = (yX0_roomOf, cX0_roomOf, 4, some .int) := rfl
theorem zi_5 : zinfo 5 = (yX0_timesOf, cX0_timesOf, 5, some .int) := rfl
theorem zi_6 : zinfo 6 = (yX0_oddsOf, cX0_oddsOf, 11, some .long) := rfl
theorem zi_7 : zinfo 7 = (yX0_spread, cX0_spread, 4, none) := rfl
theorem zi_8 : zinfo 8 = (yX0_spreadTerm, cX0_spreadTerm, 11, none) := rfl
theorem zi_9 : zinfo 9 = (yX0_commonDivisor, cX0_commonDivisor, 11, some .long) := rfl
theorem zi_10 : zinfo 10 = (yX0_fold, cX0_fold, 8, some .long) := rfl
theorem zi_11 : zinfo 11 = (yX1_rowOf, cX1_rowOf, 2, some (.array .int)) := rfl
theorem zi_12 : zinfo 12 = (yX1_greatestOf, cX1_greatestOf, 2, some .int) := rfl
theorem zi_13 : zinfo 13 = (yX1_isOfKind, cX1_isOfKind, 4, some .boolean) := rfl
theorem zi_14 : zinfo 14 = (yX1_sizeOf, cX1_sizeOf, 3, some .int) := rfl
theorem zi_15 : zinfo 15 = (yX1_priceOf, cX1_priceOf, 4, some .int) := rfl
theorem zi_16 : zinfo 16 = (yX1_turnedSize, cX1_turnedSize, 1, some .int) := rfl
theorem zi_17 : zinfo 17 = (yX1_turnedPrice, cX1_turnedPrice, 1, some .int) := rfl
theorem zi_18 : zinfo 18 = (yX1_offBy, cX1_offBy, 4, some .int) := rfl
theorem zi_19 : zinfo 19 = (yX1_noneCounted, cX1_noneCounted, 6, some .boolean) := rfl
theorem zi_20 : zinfo 20 = (yX1_fold, cX1_fold, 6, some .long) := rfl
theorem zi_21 : zinfo 21 = (yX2_search, cX2_search, 5, none) := rfl
theorem zi_22 : zinfo 22 = (yX2_prepare, cX2_prepare, 5, none) := rfl
theorem zi_23 : zinfo 23 = (yX2_choose, cX2_choose, 6, none) := rfl
theorem zi_24 : zinfo 24 = (yX2_hasRoom, cX2_hasRoom, 3, some .boolean) := rfl
theorem zi_25 : zinfo 25 = (yX2_gradeFor, cX2_gradeFor, 2, some .int) := rfl
theorem zi_26 : zinfo 26 = (yX3_add, cX3_add, 2, some .int) := rfl
theorem zi_27 : zinfo 27 = (yX3_cheapestSet, cX3_cheapestSet, 3, some .int) := rfl
theorem zi_28 : zinfo 28 = (yX3_isBetter, cX3_isBetter, 4, some .boolean) := rfl
theorem zi_29 : zinfo 29 = (yX3_costOf, cX3_costOf, 4, some .int) := rfl
theorem zi_30 : zinfo 30 = (yX3_findsAll, cX3_findsAll, 3, some .boolean) := rfl
theorem zi_31 : zinfo 31 = (yX3_findsAsAsked, cX3_findsAsAsked, 8, some .boolean) := rfl
theorem zi_32 : zinfo 32 = (yX3_fold, cX3_fold, 6, some .long) := rfl
theorem zi_33 : zinfo 33 = (yX4_take, cX4_take, 6, some .int) := rfl
theorem zi_34 : zinfo 34 = (yX4_looseOf, cX4_looseOf, 4, some .int) := rfl
theorem zi_35 : zinfo 35 = (yX4_fitsChain, cX4_fitsChain, 10, some .boolean) := rfl
theorem zi_36 : zinfo 36 = (yX4_isRight, cX4_isRight, 5, some .boolean) := rfl
theorem zi_37 : zinfo 37 = (yX4_rightOnes, cX4_rightOnes, 5, some .int) := rfl
theorem zi_38 : zinfo 38 = (yX4_findSwap, cX4_findSwap, 8, some .boolean) := rfl
theorem zi_39 : zinfo 39 = (yX4_setsRight, cX4_setsRight, 7, some .boolean) := rfl
theorem zi_40 : zinfo 40 = (yX4_change, cX4_change, 5, none) := rfl
theorem zi_41 : zinfo 41 = (yX4_lotsToBlame, cX4_lotsToBlame, 5, some .int) := rfl
theorem zi_42 : zinfo 42 = (yX4_explains, cX4_explains, 3, some .boolean) := rfl
theorem zi_43 : zinfo 43 = (yX4_lotsIn, cX4_lotsIn, 8, some .int) := rfl
theorem zi_44 : zinfo 44 = (yX4_withLots, cX4_withLots, 5, some .int) := rfl
theorem zi_45 : zinfo 45 = (yX4_fold, cX4_fold, 6, some .long) := rfl
theorem zi_46 : zinfo 46 = (yX5_add, cX5_add, 5, some .int) := rfl
theorem zi_47 : zinfo 47 = (yX5_search, cX5_search, 3, none) := rfl
theorem zi_48 : zinfo 48 = (yX5_choose, cX5_choose, 6, none) := rfl
theorem zi_49 : zinfo 49 = (yX5_inTime, cX5_inTime, 7, some .boolean) := rfl
theorem zi_50 : zinfo 50 = (yX5_shopFor, cX5_shopFor, 2, some .int) := rfl
theorem zi_51 : zinfo 51 = (yX5_dayFor, cX5_dayFor, 6, some .int) := rfl
theorem zi_52 : zinfo 52 = (yX5_roundedUp, cX5_roundedUp, 2, some .int) := rfl
theorem zi_53 : zinfo 53 = (yX5_fold, cX5_fold, 6, some .long) := rfl
theorem zi_54 : zinfo 54 = (yX6_write, cX6_write, 2, none) := rfl
theorem zi_55 : zinfo 55 = (yX6_read, cX6_read, 2, none) := rfl
theorem zi_56 : zinfo 56 = (yX6_nextIs, cX6_nextIs, 3, some .boolean) := rfl
theorem zi_57 : zinfo 57 = (yX6_nextIsSign, cX6_nextIsSign, 1, some .boolean) := rfl
theorem zi_58 : zinfo 58 = (yX6_readLetter, cX6_readLetter, 2, some .boolean) := rfl
theorem zi_59 : zinfo 59 = (yX6_readTerm, cX6_readTerm, 2, some .boolean) := rfl
theorem zi_60 : zinfo 60 = (yX6_readNumber, cX6_readNumber, 4, some .boolean) := rfl
theorem zi_61 : zinfo 61 = (yX6_fold, cX6_fold, 3, some .long) := rfl
theorem zi_62 : zinfo 62 = (yX7_begin, cX7_begin, 8, none) := rfl
theorem zi_63 : zinfo 63 = (yX7_pairMost, cX7_pairMost, 3, none) := rfl
theorem zi_64 : zinfo 64 = (yX7_settle, cX7_settle, 4, some .int) := rfl
theorem zi_65 : zinfo 65 = (yX7_force, cX7_force, 6, some .boolean) := rfl
theorem zi_66 : zinfo 66 = (yX7_pairOneMore, cX7_pairOneMore, 8, some .boolean) := rfl
theorem zi_67 : zinfo 67 = (yX7_queueFree, cX7_queueFree, 5, some .int) := rfl
theorem zi_68 : zinfo 68 = (yX7_turnFrom, cX7_turnFrom, 6, none) := rfl
theorem zi_69 : zinfo 69 = (yX7_pairsMade, cX7_pairsMade, 3, some .int) := rfl
theorem zi_70 : zinfo 70 = (yX7_partnerOf, cX7_partnerOf, 2, some .int) := rfl
theorem zi_71 : zinfo 71 = (yX8_add, cX8_add, 2, some .int) := rfl
theorem zi_72 : zinfo 72 = (yX8_waysToChoose, cX8_waysToChoose, 6, some .int) := rfl
theorem zi_73 : zinfo 73 = (yX8_offDue, cX8_offDue, 6, some .int) := rfl
theorem zi_74 : zinfo 74 = (yX8_fold, cX8_fold, 3, some .long) := rfl
theorem zi_75 : zinfo 75 = (yX9_addLate, cX9_addLate, 4, some .int) := rfl
theorem zi_76 : zinfo 76 = (yX9_daysFor, cX9_daysFor, 8, some .int) := rfl
theorem zi_77 : zinfo 77 = (yX9_comeBy, cX9_comeBy, 5, some .int) := rfl
theorem zi_78 : zinfo 78 = (yX9_fold, cX9_fold, 7, some .long) := rfl
theorem zi_79 : zinfo 79 = (yX10_add, cX10_add, 3, some .int) := rfl
theorem zi_80 : zinfo 80 = (yX10_anyOfPart, cX10_anyOfPart, 3, some .boolean) := rfl
theorem zi_81 : zinfo 81 = (yX10_isKnown, cX10_isKnown, 2, some .boolean) := rfl
theorem zi_82 : zinfo 82 = (yX10_addMeasure, cX10_addMeasure, 5, some .int) := rfl
theorem zi_83 : zinfo 83 = (yX10_settle, cX10_settle, 3, none) := rfl
theorem zi_84 : zinfo 84 = (yX10_believed, cX10_believed, 3, some .int) := rfl
theorem zi_85 : zinfo 85 = (yX10_agree, cX10_agree, 3, some .boolean) := rfl
theorem zi_86 : zinfo 86 = (yX10_leastOf, cX10_leastOf, 5, some .int) := rfl
theorem zi_87 : zinfo 87 = (yX10_greatestOf, cX10_greatestOf, 5, some .int) := rfl
theorem zi_88 : zinfo 88 = (yX10_fold, cX10_fold, 6, some .long) := rfl
theorem zi_89 : zinfo 89 = (yX11_part, cX11_part, 4, some .int) := rfl
theorem zi_90 : zinfo 90 = (yX11_as, cX11_as, 3, some .int) := rfl
theorem zi_91 : zinfo 91 = (yX11_size, cX11_size, 2, some .int) := rfl
theorem zi_92 : zinfo 92 = (yX11_grade, cX11_grade, 4, some .int) := rfl
theorem zi_93 : zinfo 93 = (yX11_price, cX11_price, 3, some .int) := rfl
theorem zi_94 : zinfo 94 = (yX11_counted, cX11_counted, 4, some .int) := rfl
theorem zi_95 : zinfo 95 = (yX11_letters, cX11_letters, 5, some .int) := rfl
theorem zi_96 : zinfo 96 = (yX11_blank, cX11_blank, 2, some .int) := rfl
theorem zi_97 : zinfo 97 = (yX11_fault, cX11_fault, 1, some .int) := rfl
theorem zi_98 : zinfo 98 = (yX11_chain, cX11_chain, 1, some .int) := rfl
theorem zi_99 : zinfo 99 = (yX11_of, cX11_of, 3, some .int) := rfl
theorem zi_100 : zinfo 100 = (yX11_odds, cX11_odds, 3, some .long) := rfl
theorem zi_101 : zinfo 101 = (yX11_giveOut, cX11_giveOut, 3, some .int) := rfl
theorem zi_102 : zinfo 102 = (yX11_thing, cX11_thing, 3, some .int) := rfl
theorem zi_103 : zinfo 103 = (yX11_measure, cX11_measure, 4, some .int) := rfl
theorem zi_104 : zinfo 104 = (yX11_known, cX11_known, 3, some .int) := rfl
theorem zi_105 : zinfo 105 = (yX11_pairs, cX11_pairs, 6, some .int) := rfl
theorem zi_106 : zinfo 106 = (yX11_put, cX11_put, 3, some .int) := rfl
theorem zi_107 : zinfo 107 = (yX11_in, cX11_in, 3, some .int) := rfl
theorem zi_108 : zinfo 108 = (yX11_right, cX11_right, 3, some .int) := rfl
theorem zi_109 : zinfo 109 = (yX11_all, cX11_all, 1, some .int) := rfl
theorem zi_110 : zinfo 110 = (yX11_swap, cX11_swap, 2, some .int) := rfl
theorem zi_111 : zinfo 111 = (yX11_told, cX11_told, 3, some .int) := rfl
theorem zi_112 : zinfo 112 = (yX11_blamed, cX11_blamed, 1, some .int) := rfl
theorem zi_113 : zinfo 113 = (yX11_called, cX11_called, 2, some .int) := rfl
theorem zi_114 : zinfo 114 = (yX11_hours, cX11_hours, 3, some .int) := rfl
theorem zi_115 : zinfo 115 = (yX11_offer, cX11_offer, 5, some .int) := rfl
theorem zi_116 : zinfo 116 = (yX11_order, cX11_order, 3, some .int) := rfl
theorem zi_117 : zinfo 117 = (yX11_given, cX11_given, 5, some .int) := rfl
theorem zi_118 : zinfo 118 = (yX11_late, cX11_late, 3, some .int) := rfl
theorem zi_119 : zinfo 119 = (yX11_foretold, cX11_foretold, 3, some .int) := rfl
theorem zi_120 : zinfo 120 = (yX11_look, cX11_look, 2, some .int) := rfl
theorem zi_121 : zinfo 121 = (yX11_finds, cX11_finds, 4, some .int) := rfl
theorem zi_122 : zinfo 122 = (yX11_asked, cX11_asked, 3, some .int) := rfl
theorem zi_123 : zinfo 123 = (yX11_enough, cX11_enough, 3, some .int) := rfl
theorem zi_124 : zinfo 124 = (yX11_made, cX11_made, 2, some .int) := rfl
theorem zi_125 : zinfo 125 = (yX11_unmade, cX11_unmade, 2, some .int) := rfl
theorem zi_126 : zinfo 126 = (yX11_drift, cX11_drift, 3, some .int) := rfl
theorem zi_127 : zinfo 127 = (yX11_count, cX11_count, 2, some .int) := rfl
theorem zi_128 : zinfo 128 = (yX11_digest, cX11_digest, 4, some .long) := rfl
theorem zi_129 : zinfo 129 = (yX11_named, cX11_named, 2, some .boolean) := rfl
theorem zi_130 : zinfo 130 = (yX11_within, cX11_within, 3, some .boolean) := rfl
theorem zi_131 : zinfo 131 = (yX11_exchange, cX11_exchange, 4, some .int) := rfl
theorem zi_132 : zinfo 132 = (yX11_folded, cX11_folded, 4, some .long) := rfl
theorem zi_133 : zinfo 133 = (yX11_foldedRow, cX11_foldedRow, 7, some .long) := rfl
theorem zi_134 : zinfo 134 = (yX11_lettersIn, cX11_lettersIn, 5, some .int) := rfl
theorem zi_135 : zinfo 135 = (yX12_lies, cX12_lies, 3, some .boolean) := rfl
theorem zi_136 : zinfo 136 = (yX12_isPart, cX12_isPart, 1, some .boolean) := rfl
theorem zi_137 : zinfo 137 = (yX12_isThing, cX12_isThing, 2, some .boolean) := rfl
theorem zi_138 : zinfo 138 = (yX12_isMadeOf, cX12_isMadeOf, 4, some .boolean) := rfl
theorem zi_139 : zinfo 139 = (yX12_part, cX12_part, 5, some .int) := rfl
theorem zi_140 : zinfo 140 = (yX12_as, cX12_as, 3, some .int) := rfl
theorem zi_141 : zinfo 141 = (yX12_sizeOf, cX12_sizeOf, 3, some .int) := rfl
theorem zi_142 : zinfo 142 = (yX12_size, cX12_size, 2, some .int) := rfl
theorem zi_143 : zinfo 143 = (yX12_isGrade, cX12_isGrade, 1, some .boolean) := rfl
theorem zi_144 : zinfo 144 = (yX12_grade, cX12_grade, 5, some .int) := rfl
theorem zi_145 : zinfo 145 = (yX12_priceOf, cX12_priceOf, 4, some .int) := rfl
theorem zi_146 : zinfo 146 = (yX12_price, cX12_price, 3, some .int) := rfl
theorem zi_147 : zinfo 147 = (yX12_counted, cX12_counted, 5, some .int) := rfl
theorem zi_148 : zinfo 148 = (yX12_letters, cX12_letters, 7, some .int) := rfl
theorem zi_149 : zinfo 149 = (yX12_blank, cX12_blank, 2, some .int) := rfl
theorem zi_150 : zinfo 150 = (yX12_readChain, cX12_readChain, 10, none) := rfl
theorem zi_151 : zinfo 151 = (yX12_fault, cX12_fault, 1, some .int) := rfl
theorem zi_152 : zinfo 152 = (yX12_chain, cX12_chain, 2, some .int) := rfl
theorem zi_153 : zinfo 153 = (yX12_isChain, cX12_isChain, 2, some .boolean) := rfl
theorem zi_154 : zinfo 154 = (yX12_gapOf, cX12_gapOf, 4, some .int) := rfl
theorem zi_155 : zinfo 155 = (yX12_spreadOf, cX12_spreadOf, 4, some .int) := rfl
theorem zi_156 : zinfo 156 = (yX12_holdsOf, cX12_holdsOf, 4, some .boolean) := rfl
theorem zi_157 : zinfo 157 = (yX12_toldOf, cX12_toldOf, 3, some .int) := rfl
theorem zi_158 : zinfo 158 = (yX12_of, cX12_of, 3, some .int) := rfl
theorem zi_159 : zinfo 159 = (yX12_odds, cX12_odds, 13, some .long) := rfl
theorem zi_160 : zinfo 160 = (yX12_allHold, cX12_allHold, 3, some .boolean) := rfl
theorem zi_161 : zinfo 161 = (yX12_giveOut, cX12_giveOut, 8, some .int) := rfl
theorem zi_162 : zinfo 162 = (yX12_thing, cX12_thing, 3, some .int) := rfl
theorem zi_163 : zinfo 163 = (yX12_measure, cX12_measure, 4, some .int) := rfl
theorem zi_164 : zinfo 164 = (yX12_commonOf, cX12_commonOf, 9, some .int) := rfl
theorem zi_165 : zinfo 165 = (yX12_knownBy, cX12_knownBy, 5, some .int) := rfl
theorem zi_166 : zinfo 166 = (yX12_knownAt, cX12_knownAt, 4, some .int) := rfl
theorem zi_167 : zinfo 167 = (yX12_known, cX12_known, 3, some .int) := rfl
theorem zi_168 : zinfo 168 = (yX12_layFits, cX12_layFits, 8, none) := rfl
theorem zi_169 : zinfo 169 = (yX12_grows, cX12_grows, 6, some .boolean) := rfl
theorem zi_170 : zinfo 170 = (yX12_turn, cX12_turn, 5, none) := rfl
theorem zi_171 : zinfo 171 = (yX12_mostPairs, cX12_mostPairs, 4, some .int) := rfl
theorem zi_172 : zinfo 172 = (yX12_layPairs, cX12_layPairs, 7, some .int) := rfl
theorem zi_173 : zinfo 173 = (yX12_pairs, cX12_pairs, 7, some .int) := rfl
theorem zi_174 : zinfo 174 = (yX12_isMachine, cX12_isMachine, 1, some .boolean) := rfl
theorem zi_175 : zinfo 175 = (yX12_placeOf, cX12_placeOf, 3, some .int) := rfl
theorem zi_176 : zinfo 176 = (yX12_put, cX12_put, 5, some .int) := rfl
theorem zi_177 : zinfo 177 = (yX12_in, cX12_in, 3, some .int) := rfl
theorem zi_178 : zinfo 178 = (yX12_isRight, cX12_isRight, 8, some .boolean) := rfl
theorem zi_179 : zinfo 179 = (yX12_right, cX12_right, 3, some .int) := rfl
theorem zi_180 : zinfo 180 = (yX12_isAllRight, cX12_isAllRight, 4, some .boolean) := rfl
theorem zi_181 : zinfo 181 = (yX12_all, cX12_all, 3, some .int) := rfl
theorem zi_182 : zinfo 182 = (yX12_change, cX12_change, 5, none) := rfl
theorem zi_183 : zinfo 183 = (yX12_setsRight, cX12_setsRight, 5, some .boolean) := rfl
theorem zi_184 : zinfo 184 = (yX12_swap, cX12_swap, 5, some .int) := rfl
theorem zi_185 : zinfo 185 = (yX12_told, cX12_told, 4, some .int) := rfl
theorem zi_186 : zinfo 186 = (yX12_lotsOf, cX12_lotsOf, 5, some .int) := rfl
theorem zi_187 : zinfo 187 = (yX12_ones, cX12_ones, 3, some .int) := rfl
theorem zi_188 : zinfo 188 = (yX12_blamedLots, cX12_blamedLots, 6, some .int) := rfl
theorem zi_189 : zinfo 189 = (yX12_blamed, cX12_blamed, 1, some .int) := rfl
theorem zi_190 : zinfo 190 = (yX12_called, cX12_called, 4, some .int) := rfl
theorem zi_191 : zinfo 191 = (yX12_isShop, cX12_isShop, 1, some .boolean) := rfl
theorem zi_192 : zinfo 192 = (yX12_hours, cX12_hours, 4, some .int) := rfl
theorem zi_193 : zinfo 193 = (yX12_offer, cX12_offer, 6, some .int) := rfl
theorem zi_194 : zinfo 194 = (yX12_order, cX12_order, 3, some .int) := rfl
theorem zi_195 : zinfo 195 = (yX12_doneOn, cX12_doneOn, 6, some .int) := rfl
theorem zi_196 : zinfo 196 = (yX12_layWay, cX12_layWay, 3, none) := rfl
theorem zi_197 : zinfo 197 = (yX12_wayCost, cX12_wayCost, 5, some .int) := rfl
theorem zi_198 : zinfo 198 = (yX12_given, cX12_given, 7, some .int) := rfl
theorem zi_199 : zinfo 199 = (yX12_late, cX12_late, 3, some .int) := rfl
theorem zi_200 : zinfo 200 = (yX12_foretold, cX12_foretold, 6, some .int) := rfl
theorem zi_201 : zinfo 201 = (yX12_look, cX12_look, 2, some .int) := rfl
theorem zi_202 : zinfo 202 = (yX12_finds, cX12_finds, 5, some .int) := rfl
theorem zi_203 : zinfo 203 = (yX12_asked, cX12_asked, 4, some .int) := rfl
theorem zi_204 : zinfo 204 = (yX12_isEnough, cX12_isEnough, 9, some .boolean) := rfl
theorem zi_205 : zinfo 205 = (yX12_costsOf, cX12_costsOf, 4, some .int) := rfl
theorem zi_206 : zinfo 206 = (yX12_enough, cX12_enough, 5, some .int) := rfl
theorem zi_207 : zinfo 207 = (yX12_made, cX12_made, 2, some .int) := rfl
theorem zi_208 : zinfo 208 = (yX12_unmade, cX12_unmade, 2, some .int) := rfl
theorem zi_209 : zinfo 209 = (yX12_offBy, cX12_offBy, 6, some .int) := rfl
theorem zi_210 : zinfo 210 = (yX12_drift, cX12_drift, 7, some .int) := rfl
theorem zi_211 : zinfo 211 = (yX12_howMany, cX12_howMany, 5, some .int) := rfl
theorem zi_212 : zinfo 212 = (yX12_count, cX12_count, 2, some .int) := rfl
theorem zi_213 : zinfo 213 = (yX12_mix, cX12_mix, 3, none) := rfl
theorem zi_214 : zinfo 214 = (yX12_mixDrawing, cX12_mixDrawing, 3, none) := rfl
theorem zi_215 : zinfo 215 = (yX12_digest, cX12_digest, 3, some .long) := rfl
theorem zi_216 : zinfo 216 = (yJ6_compare_7cf53, cJ6_compare_7cf53, 2, some .int) := rfl
theorem zi_217 : zinfo 217 = (yJ6_bitCount_0f7a4, cJ6_bitCount_0f7a4, 1, some .int) := rfl
theorem zi_218 : zinfo 218 = (yJ7_fill_d0a16, cJ7_fill_d0a16, 5, none) := rfl
theorem zi_219 : zinfo 219 = (yJ7_fill_53178, cJ7_fill_53178, 4, none) := rfl
theorem cv_X0_58 : zCV RX0 58 0 (yX0_gapOf, cX0_gapOf, 5, some .int) 2 := ⟨⟨(z_tw 575 (by decide +kernel)), (z_tw 5 (by decide +kernel)), ⟨by decide, by decide⟩, by decide +kernel, by decide, (.inl (z_tw 572 (by decide +kernel)))⟩, (z_tw 574 (by decide +kernel)), (z_sel (n := 8) 5 (by decide +kernel)), TX0, 8, rfl⟩
theorem cv_X0_62 : zCV RX0 62 0 (yX0_spansOf, cX0_spansOf, 5, some .int) 2 := ⟨⟨(z_tw 580 (by decide +kernel)), (z_tw 5 (by decide +kernel)), ⟨by decide, by decide⟩, by decide +kernel, by decide, (.inl (z_tw 577 (by decide +kernel)))⟩, (z_tw 579 (by decide +kernel)), (z_sel (n := 8) 6 (by decide +kernel)), TX0, 8, rfl⟩
theorem cv_X0_65 : zCV RX0 65 0 (yX0_roomOf, cX0_roomOf, 4, some .int) 2 := ⟨⟨(z_tw 584 (by decide +kernel)), (z_tw 5 (by decide +kernel)), ⟨by decide, by decide⟩, by decide +kernel, by decide, (.inl (z_tw 581 (by decide +kernel)))⟩, (z_tw 582 (by decide +kernel)), (z_tw 583 (by decide +kernel)), TX0, 8, rfl⟩
theorem cv_X0_68 : zCV RX0 68 1 (yX1_sizeOf, cX1_sizeOf, 3, some .int) 1 := ⟨⟨(z_tw 483 (by decide +kernel)), (z_tw 2 (by decide +kernel)), ⟨by decide, by decide⟩, by decide +kernel, by decide, (.inl (z_tw 576 (by decide +kernel)))⟩, (z_tw 481 (by decide +kernel)), (z_tw 482 (by decide +kernel)), TX1, 6, rfl⟩
theorem cv_X0_86 : zCV RX0 86 0 (yX0_spread, cX0_spread, 4, none) 2 := ⟨⟨(z_tw 600 (by decide +kernel)), (z_tw 5 (by decide +kernel)), ⟨by decide, by decide⟩, by decide +kernel, by decide, (.inl (z_tw 597 (by decide +kernel)))⟩, (z_tw 599 (by decide +kernel)), (z_sel (n := 8) 7 (by decide +kernel)), TX0, 8, rfl⟩
theorem cv_X0_106 : zCV RX0 106 0 (yX0_spreadTerm, cX0_spreadTerm, 11, none) 3 := ⟨⟨(z_tw 607 (by decide +kernel)), (z_tw 5 (by decide +kernel)), ⟨by decide, by decide⟩, by decide +kernel, by decide, (.inl (z_tw 604 (by decide +kernel)))⟩, (z_tw 606 (by decide +kernel)), (z_sel (n := 8) 8 (by decide +kernel)), TX0, 8, rfl⟩
theorem cv_X0_110 : zCV RX0 110 1 (yX1_offBy, cX1_offBy, 4, some .int) 2 := ⟨⟨(z_tw 611 (by decide +kernel)), (z_tw 2 (by decide +kernel)), ⟨by decide, by decide⟩, by decide +kernel, by decide, (.inl (z_tw 608 (by decide +kernel)))⟩, (z_tw 609 (by decide +kernel)), (z_tw 610 (by decide +kernel)), TX1, 6, rfl⟩
theorem cv_X0_116 : zCV RX0 116 0 (yX0_about, cX0_about, 6, some .int) 3 := ⟨⟨(z_tw 571 (by decide +kernel)), (z_tw 5 (by decide +kernel)), ⟨by decide, by decide⟩, by decide +kernel, by decide, (.inl (z_tw 1004 (by decide +kernel)))⟩, (z_tw 569 (by decide +kernel)), (z_tw 570 (by decide +kernel)), TX0, 8, rfl⟩
theorem cv_X1_45 : zCV RX1 45 1 (yX1_noneCounted, cX1_noneCounted, 6, some .boolean) 1 := ⟨⟨(z_tw 615 (by decide +kernel)), (z_tw 2 (by decide +kernel)), ⟨by decide, by decide⟩, by decide +kernel, by decide, (.inl (z_tw 612 (by decide +kernel)))⟩, (z_tw 614 (by decide +kernel)), (z_sel (n := 6) 9 (by decide +kernel)), TX1, 6, rfl⟩
theorem cv_X1_53 : zCV RX1 53 1 (yX1_sizeOf, cX1_sizeOf, 3, some .int) 1 := ⟨⟨(z_tw 483 (by decide +kernel)), (z_tw 2 (by decide +kernel)), ⟨by decide, by decide⟩, by decide +kernel, by decide, (.inl (z_tw 995 (by decide +kernel)))⟩, (z_tw 481 (by decide +kernel)), (z_tw 482 (by decide +kernel)), TX1, 6, rfl⟩
theorem cv_X10_42 : zCV RX10 42 10 (yX10_settle, cX10_settle, 3, none) 1 := ⟨⟨(z_tw 676 (by decide +kernel)), (z_tw 7 (by decide +kernel)), ⟨by decide, by decide⟩, by decide +kernel, by decide, (.inl (z_tw 673 (by decide +kernel)))⟩, (z_tw 675 (by decide +kernel)), (z_sel (n := 9) 13 (by decide +kernel)), TX10, 9, rfl⟩
theorem cv_X10_46 : zCV RX10 46 10 (yX10_believed, cX10_believed, 3, some .int) 1 := ⟨⟨(z_tw 680 (by decide +kernel)), (z_tw 7 (by decide +kernel)), ⟨by decide, by decide⟩, by decide +kernel, by decide, (.inl (z_tw 677 (by decide +kernel)))⟩, (z_tw 679 (by decide +kernel)), (z_sel (n := 9) 14 (by decide +kernel)), TX10, 9, rfl⟩
theorem cv_X10_50 : zCV RX10 50 10 (yX10_leastOf, cX10_leastOf, 5, some .int) 2 := ⟨⟨(z_tw 688 (by decide +kernel)), (z_tw 7 (by decide +kernel)), ⟨by decide, by decide⟩, by decide +kernel, by decide, (.inl (z_tw 685 (by decide +kernel)))⟩, (z_tw 687 (by decide +kernel)), (z_sel (n := 9) 16 (by decide +kernel)), TX10, 9, rfl⟩
theorem cv_X10_54 : zCV RX10 54 10 (yX10_greatestOf, cX10_greatestOf, 5, some .int) 2 := ⟨⟨(z_tw 693 (by decide +kernel)), (z_tw 7 (by decide +kernel)), ⟨by decide, by decide⟩, by decide +kernel, by decide, (.inl (z_tw 690 (by decide +kernel)))⟩, (z_tw 692 (by decide +kernel)), (z_sel (n := 9) 17 (by decide +kernel)), TX10, 9, rfl⟩
theorem cv_X10_57 : zCV RX10 57 10 (yX10_agree, cX10_agree, 3, some .boolean) 2 := ⟨⟨(z_tw 684 (by decide +kernel)), (z_tw 7 (by decide +kernel)), ⟨by decide, by decide⟩, by decide +kernel, by decide, (.inl (z_tw 681 (by decide +kernel)))⟩, (z_tw 683 (by decide +kernel)), (z_sel (n := 9) 15 (by decide +kernel)), TX10, 9, rfl⟩
theorem cv_X11_90 : zCV RX11 90 1 (yX1_greatestOf, cX1_greatestOf, 2, some .int) 1 := ⟨⟨(z_tw 453 (by decide +kernel)), (z_tw 2 (by decide +kernel)), ⟨by decide, by decide⟩, by decide +kernel, by decide, (.inl (z_tw 450 (by decide +kernel)))⟩, (z_tw 451 (by decide +kernel)), (z_tw 452 (by decide +kernel)), TX1, 6, rfl⟩
theorem cv_X11_98 : zCV RX11 98 10 (yX10_anyOfPart, cX10_anyOfPart, 3, some .boolean) 1 := ⟨⟨(z_tw 460 (by decide +kernel)), (z_tw 7 (by decide +kernel)), ⟨by decide, by decide⟩, by decide +kernel, by decide, (.inl (z_tw 457 (by decide +kernel)))⟩, (z_tw 458 (by decide +kernel)), (z_tw 459 (by decide +kernel)), TX10, 9, rfl⟩
theorem cv_X11_102 : zCV RX11 102 1 (yX1_rowOf, cX1_rowOf, 2, some (.array .int)) 1 := ⟨⟨(z_tw 464 (by decide +kernel)), (z_tw 2 (by decide +kernel)), ⟨by decide, by decide⟩, by decide +kernel, by decide, (.inl (z_tw 461 (by decide +kernel)))⟩, (z_tw 462 (by decide +kernel)), (z_tw 463 (by decide +kernel)), TX1, 6, rfl⟩
theorem cv_X11_110 : zCV RX11 110 1 (yX1_isOfKind, cX1_isOfKind, 4, some .boolean) 2 := ⟨⟨(z_tw 475 (by decide +kernel)), (z_tw 2 (by decide +kernel)), ⟨by decide, by decide⟩, by decide +kernel, by decide, (.inl (z_tw 472 (by decide +kernel)))⟩, (z_tw 473 (by decide +kernel)), (z_tw 474 (by decide +kernel)), TX1, 6, rfl⟩
theorem cv_X11_113 : zCV RX11 113 1 (yX1_sizeOf, cX1_sizeOf, 3, some .int) 1 := ⟨⟨(z_tw 483 (by decide +kernel)), (z_tw 2 (by decide +kernel)), ⟨by decide, by decide⟩, by decide +kernel, by decide, (.inl (z_tw 480 (by decide +kernel)))⟩, (z_tw 481 (by decide +kernel)), (z_tw 482 (by decide +kernel)), TX1, 6, rfl⟩
theorem cv_X11_123 : zCV RX11 123 1 (yX1_priceOf, cX1_priceOf, 4, some .int) 2 := ⟨⟨(z_tw 498 (by decide +kernel)), (z_tw 2 (by decide +kernel)), ⟨by decide, by decide⟩, by decide +kernel, by decide, (.inl (z_tw 495 (by decide +kernel)))⟩, (z_tw 496 (by decide +kernel)), (z_tw 497 (by decide +kernel)), TX1, 6, rfl⟩
theorem cv_X11_141 : zCV RX11 141 6 (yX6_write, cX6_write, 2, none) 1 := ⟨⟨(z_tw 517 (by decide +kernel)), (z_tw 4 (by decide +kernel)), ⟨by decide, by decide⟩, by decide +kernel, by decide, (.inl (z_tw 514 (by decide +kernel)))⟩, (z_tw 515 (by decide +kernel)), (z_tw 516 (by decide +kernel)), TX6, 10, rfl⟩
theorem cv_X11_145 : zCV RX11 145 6 (yX6_read, cX6_read, 2, none) 0 := ⟨⟨(z_tw 529 (by decide +kernel)), (z_tw 4 (by decide +kernel)), ⟨by decide, by decide⟩, by decide +kernel, by decide, (.inl (z_tw 526 (by decide +kernel)))⟩, (z_tw 527 (by decide +kernel)), (z_tw 528 (by decide +kernel)), TX6, 10, rfl⟩
theorem cv_X11_162 : zCV RX11 162 0 (yX0_add, cX0_add, 2, none) 1 := ⟨⟨(z_tw 558 (by decide +kernel)), (z_tw 5 (by decide +kernel)), ⟨by decide, by decide⟩, by decide +kernel, by decide, (.inl (z_tw 555 (by decide +kernel)))⟩, (z_tw 556 (by decide +kernel)), (z_tw 557 (by decide +kernel)), TX0, 8, rfl⟩
theorem cv_X11_168 : zCV RX11 168 0 (yX0_about, cX0_about, 6, some .int) 3 := ⟨⟨(z_tw 571 (by decide +kernel)), (z_tw 5 (by decide +kernel)), ⟨by decide, by decide⟩, by decide +kernel, by decide, (.inl (z_tw 568 (by decide +kernel)))⟩, (z_tw 569 (by decide +kernel)), (z_tw 570 (by decide +kernel)), TX0, 8, rfl⟩
theorem cv_X11_174 : zCV RX11 174 0 (yX0_oddsOf, cX0_oddsOf, 11, some .long) 3 := ⟨⟨(z_tw 596 (by decide +kernel)), (z_tw 5 (by decide +kernel)), ⟨by decide, by decide⟩, by decide +kernel, by decide, (.inl (z_tw 593 (by decide +kernel)))⟩, (z_tw 594 (by decide +kernel)), (z_tw 595 (by decide +kernel)), TX0, 8, rfl⟩
theorem cv_X11_181 : zCV RX11 181 2 (yX2_search, cX2_search, 5, none) 3 := ⟨⟨(z_tw 631 (by decide +kernel)), (z_tw 6 (by decide +kernel)), ⟨by decide, by decide⟩, by decide +kernel, by decide, (.inl (z_tw 628 (by decide +kernel)))⟩, (z_tw 629 (by decide +kernel)), (z_tw 630 (by decide +kernel)), TX2, 9, rfl⟩
theorem cv_X11_186 : zCV RX11 186 2 (yX2_gradeFor, cX2_gradeFor, 2, some .int) 1 := ⟨⟨(z_tw 655 (by decide +kernel)), (z_tw 6 (by decide +kernel)), ⟨by decide, by decide⟩, by decide +kernel, by decide, (.inl (z_tw 652 (by decide +kernel)))⟩, (z_tw 653 (by decide +kernel)), (z_tw 654 (by decide +kernel)), TX2, 9, rfl⟩
theorem cv_X11_190 : zCV RX11 190 10 (yX10_add, cX10_add, 3, some .int) 2 := ⟨⟨(z_tw 664 (by decide +kernel)), (z_tw 7 (by decide +kernel)), ⟨by decide, by decide⟩, by decide +kernel, by decide, (.inl (z_tw 661 (by decide +kernel)))⟩, (z_tw 662 (by decide +kernel)), (z_tw 663 (by decide +kernel)), TX10, 9, rfl⟩
theorem cv_X11_195 : zCV RX11 195 10 (yX10_addMeasure, cX10_addMeasure, 5, some .int) 3 := ⟨⟨(z_tw 672 (by decide +kernel)), (z_tw 7 (by decide +kernel)), ⟨by decide, by decide⟩, by decide +kernel, by decide, (.inl (z_tw 669 (by decide +kernel)))⟩, (z_tw 670 (by decide +kernel)), (z_tw 671 (by decide +kernel)), TX10, 9, rfl⟩
theorem cv_X11_205 : zCV RX11 205 7 (yX7_begin, cX7_begin, 8, none) 5 := ⟨⟨(z_tw 706 (by decide +kernel)), (z_tw 8 (by decide +kernel)), ⟨by decide, by decide⟩, by decide +kernel, by decide, (.inl (z_tw 703 (by decide +kernel)))⟩, (z_tw 704 (by decide +kernel)), (z_tw 705 (by decide +kernel)), TX7, 8, rfl⟩
theorem cv_X11_209 : zCV RX11 209 7 (yX7_pairMost, cX7_pairMost, 3, none) 0 := ⟨⟨(z_tw 716 (by decide +kernel)), (z_tw 8 (by decide +kernel)), ⟨by decide, by decide⟩, by decide +kernel, by decide, (.inl (z_tw 713 (by decide +kernel)))⟩, (z_tw 714 (by decide +kernel)), (z_tw 715 (by decide +kernel)), TX7, 8, rfl⟩
theorem cv_X11_212 : zCV RX11 212 7 (yX7_pairsMade, cX7_pairsMade, 3, some .int) 0 := ⟨⟨(z_tw 741 (by decide +kernel)), (z_tw 8 (by decide +kernel)), ⟨by decide, by decide⟩, by decide +kernel, by decide, (.inl (z_tw 738 (by decide +kernel)))⟩, (z_tw 739 (by decide +kernel)), (z_tw 740 (by decide +kernel)), TX7, 8, rfl⟩
theorem cv_X11_216 : zCV RX11 216 7 (yX7_partnerOf, cX7_partnerOf, 2, some .int) 1 := ⟨⟨(z_tw 745 (by decide +kernel)), (z_tw 8 (by decide +kernel)), ⟨by decide, by decide⟩, by decide +kernel, by decide, (.inl (z_tw 746 (by decide +kernel)))⟩, (z_tw 743 (by decide +kernel)), (z_tw 744 (by decide +kernel)), TX7, 8, rfl⟩
theorem cv_X11_222 : zCV RX11 222 4 (yX4_take, cX4_take, 6, some .int) 3 := ⟨⟨(z_tw 754 (by decide +kernel)), (z_tw 9 (by decide +kernel)), ⟨by decide, by decide⟩, by decide +kernel, by decide, (.inl (z_tw 751 (by decide +kernel)))⟩, (z_tw 752 (by decide +kernel)), (z_tw 753 (by decide +kernel)), TX4, 7, rfl⟩
theorem cv_X11_228 : zCV RX11 228 4 (yX4_fitsChain, cX4_fitsChain, 10, some .boolean) 4 := ⟨⟨(z_tw 768 (by decide +kernel)), (z_tw 9 (by decide +kernel)), ⟨by decide, by decide⟩, by decide +kernel, by decide, (.inl (z_tw 765 (by decide +kernel)))⟩, (z_tw 766 (by decide +kernel)), (z_tw 767 (by decide +kernel)), TX4, 7, rfl⟩
theorem cv_X11_232 : zCV RX11 232 4 (yX4_rightOnes, cX4_rightOnes, 5, some .int) 2 := ⟨⟨(z_tw 777 (by decide +kernel)), (z_tw 9 (by decide +kernel)), ⟨by decide, by decide⟩, by decide +kernel, by decide, (.inl (z_tw 774 (by decide +kernel)))⟩, (z_tw 775 (by decide +kernel)), (z_tw 776 (by decide +kernel)), TX4, 7, rfl⟩
theorem cv_X11_236 : zCV RX11 236 4 (yX4_findSwap, cX4_findSwap, 8, some .boolean) 2 := ⟨⟨(z_tw 790 (by decide +kernel)), (z_tw 9 (by decide +kernel)), ⟨by decide, by decide⟩, by decide +kernel, by decide, (.inl (z_tw 787 (by decide +kernel)))⟩, (z_tw 788 (by decide +kernel)), (z_tw 789 (by decide +kernel)), TX4, 7, rfl⟩
theorem cv_X11_252 : zCV RX11 252 4 (yX4_lotsToBlame, cX4_lotsToBlame, 5, some .int) 1 := ⟨⟨(z_tw 811 (by decide +kernel)), (z_tw 9 (by decide +kernel)), ⟨by decide, by decide⟩, by decide +kernel, by decide, (.inl (z_tw 808 (by decide +kernel)))⟩, (z_tw 809 (by decide +kernel)), (z_tw 810 (by decide +kernel)), TX4, 7, rfl⟩
theorem cv_X11_256 : zCV RX11 256 4 (yX4_withLots, cX4_withLots, 5, some .int) 2 := ⟨⟨(z_tw 833 (by decide +kernel)), (z_tw 9 (by decide +kernel)), ⟨by decide, by decide⟩, by decide +kernel, by decide, (.inl (z_tw 830 (by decide +kernel)))⟩, (z_tw 831 (by decide +kernel)), (z_tw 832 (by decide +kernel)), TX4, 7, rfl⟩
theorem cv_X11_270 : zCV RX11 270 5 (yX5_add, cX5_add, 5, some .int) 2 := ⟨⟨(z_tw 849 (by decide +kernel)), (z_tw 11 (by decide +kernel)), ⟨by decide, by decide⟩, by decide +kernel, by decide, (.inl (z_tw 846 (by decide +kernel)))⟩, (z_tw 847 (by decide +kernel)), (z_tw 848 (by decide +kernel)), TX5, 9, rfl⟩
theorem cv_X11_272 : zCV RX11 272 5 (yX5_search, cX5_search, 3, none) 2 := ⟨⟨(z_tw 857 (by decide +kernel)), (z_tw 11 (by decide +kernel)), ⟨by decide, by decide⟩, by decide +kernel, by decide, (.inl (z_tw 854 (by decide +kernel)))⟩, (z_tw 855 (by decide +kernel)), (z_tw 856 (by decide +kernel)), TX5, 9, rfl⟩
theorem cv_X11_275 : zCV RX11 275 5 (yX5_shopFor, cX5_shopFor, 2, some .int) 1 := ⟨⟨(z_tw 870 (by decide +kernel)), (z_tw 11 (by decide +kernel)), ⟨by decide, by decide⟩, by decide +kernel, by decide, (.inl (z_tw 867 (by decide +kernel)))⟩, (z_tw 868 (by decide +kernel)), (z_tw 869 (by decide +kernel)), TX5, 9, rfl⟩
theorem cv_X11_278 : zCV RX11 278 5 (yX5_dayFor, cX5_dayFor, 6, some .int) 2 := ⟨⟨(z_tw 875 (by decide +kernel)), (z_tw 11 (by decide +kernel)), ⟨by decide, by decide⟩, by decide +kernel, by decide, (.inl (z_tw 872 (by decide +kernel)))⟩, (z_tw 873 (by decide +kernel)), (z_tw 874 (by decide +kernel)), TX5, 9, rfl⟩
theorem cv_X11_286 : zCV RX11 286 9 (yX9_addLate, cX9_addLate, 4, some .int) 2 := ⟨⟨(z_tw 887 (by decide +kernel)), (z_tw 10 (by decide +kernel)), ⟨by decide, by decide⟩, by decide +kernel, by decide, (.inl (z_tw 884 (by decide +kernel)))⟩, (z_tw 885 (by decide +kernel)), (z_tw 886 (by decide +kernel)), TX9, 5, rfl⟩
theorem cv_X11_289 : zCV RX11 289 9 (yX9_daysFor, cX9_daysFor, 8, some .int) 2 := ⟨⟨(z_tw 895 (by decide +kernel)), (z_tw 10 (by decide +kernel)), ⟨by decide, by decide⟩, by decide +kernel, by decide, (.inl (z_tw 892 (by decide +kernel)))⟩, (z_tw 893 (by decide +kernel)), (z_tw 894 (by decide +kernel)), TX9, 5, rfl⟩
theorem cv_X11_293 : zCV RX11 293 3 (yX3_add, cX3_add, 2, some .int) 1 := ⟨⟨(z_tw 907 (by decide +kernel)), (z_tw 12 (by decide +kernel)), ⟨by decide, by decide⟩, by decide +kernel, by decide, (.inl (z_tw 904 (by decide +kernel)))⟩, (z_tw 905 (by decide +kernel)), (z_tw 906 (by decide +kernel)), TX3, 4, rfl⟩
theorem cv_X11_301 : zCV RX11 301 3 (yX3_cheapestSet, cX3_cheapestSet, 3, some .int) 0 := ⟨⟨(z_tw 923 (by decide +kernel)), (z_tw 12 (by decide +kernel)), ⟨by decide, by decide⟩, by decide +kernel, by decide, (.inl (z_tw 920 (by decide +kernel)))⟩, (z_tw 921 (by decide +kernel)), (z_tw 922 (by decide +kernel)), TX3, 4, rfl⟩
theorem cv_X11_304 : zCV RX11 304 3 (yX3_costOf, cX3_costOf, 4, some .int) 1 := ⟨⟨(z_tw 940 (by decide +kernel)), (z_tw 12 (by decide +kernel)), ⟨by decide, by decide⟩, by decide +kernel, by decide, (.inl (z_tw 945 (by decide +kernel)))⟩, (z_tw 938 (by decide +kernel)), (z_tw 939 (by decide +kernel)), TX3, 4, rfl⟩
theorem cv_X11_308 : zCV RX11 308 8 (yX8_add, cX8_add, 2, some .int) 1 := ⟨⟨(z_tw 953 (by decide +kernel)), (z_tw 13 (by decide +kernel)), ⟨by decide, by decide⟩, by decide +kernel, by decide, (.inl (z_tw 950 (by decide +kernel)))⟩, (z_tw 951 (by decide +kernel)), (z_tw 952 (by decide +kernel)), TX8, 2, rfl⟩
theorem cv_X11_309 : zCV RX11 309 8 (yX8_waysToChoose, cX8_waysToChoose, 6, some .int) 2 := ⟨⟨(z_tw 965 (by decide +kernel)), (z_tw 13 (by decide +kernel)), ⟨by decide, by decide⟩, by decide +kernel, by decide, (.inl (z_tw 962 (by decide +kernel)))⟩, (z_tw 963 (by decide +kernel)), (z_tw 964 (by decide +kernel)), TX8, 2, rfl⟩
theorem cv_X11_313 : zCV RX11 313 4 (yX4_looseOf, cX4_looseOf, 4, some .int) 1 := ⟨⟨(z_tw 981 (by decide +kernel)), (z_tw 9 (by decide +kernel)), ⟨by decide, by decide⟩, by decide +kernel, by decide, (.inl (z_tw 978 (by decide +kernel)))⟩, (z_tw 979 (by decide +kernel)), (z_tw 980 (by decide +kernel)), TX4, 7, rfl⟩
theorem cv_X11_321 : zCV RX11 321 1 (yX1_fold, cX1_fold, 6, some .long) 1 := ⟨⟨(z_tw 990 (by decide +kernel)), (z_tw 2 (by decide +kernel)), ⟨by decide, by decide⟩, by decide +kernel, by decide, (.inl (z_tw 987 (by decide +kernel)))⟩, (z_tw 988 (by decide +kernel)), (z_tw 989 (by decide +kernel)), TX1, 6, rfl⟩
theorem cv_X11_325 : zCV RX11 325 0 (yX0_fold, cX0_fold, 8, some .long) 2 := ⟨⟨(z_tw 1003 (by decide +kernel)), (z_tw 5 (by decide +kernel)), ⟨by decide, by decide⟩, by decide +kernel, by decide, (.inl (z_tw 1000 (by decide +kernel)))⟩, (z_tw 1001 (by decide +kernel)), (z_tw 1002 (by decide +kernel)), TX0, 8, rfl⟩
theorem cv_X11_328 : zCV RX11 328 10 (yX10_fold, cX10_fold, 6, some .long) 1 := ⟨⟨(z_tw 1009 (by decide +kernel)), (z_tw 7 (by decide +kernel)), ⟨by decide, by decide⟩, by decide +kernel, by decide, (.inl (z_tw 1006 (by decide +kernel)))⟩, (z_tw 1007 (by decide +kernel)), (z_tw 1008 (by decide +kernel)), TX10, 9, rfl⟩
theorem cv_X11_329 : zCV RX11 329 4 (yX4_fold, cX4_fold, 6, some .long) 1 := ⟨⟨(z_tw 1014 (by decide +kernel)), (z_tw 9 (by decide +kernel)), ⟨by decide, by decide⟩, by decide +kernel, by decide, (.inl (z_tw 1011 (by decide +kernel)))⟩, (z_tw 1012 (by decide +kernel)), (z_tw 1013 (by decide +kernel)), TX4, 7, rfl⟩
theorem cv_X11_330 : zCV RX11 330 9 (yX9_fold, cX9_fold, 7, some .long) 1 := ⟨⟨(z_tw 1020 (by decide +kernel)), (z_tw 10 (by decide +kernel)), ⟨by decide, by decide⟩, by decide +kernel, by decide, (.inl (z_tw 1017 (by decide +kernel)))⟩, (z_tw 1018 (by decide +kernel)), (z_tw 1019 (by decide +kernel)), TX9, 5, rfl⟩
theorem cv_X11_331 : zCV RX11 331 5 (yX5_fold, cX5_fold, 6, some .long) 1 := ⟨⟨(z_tw 1026 (by decide +kernel)), (z_tw 11 (by decide +kernel)), ⟨by decide, by decide⟩, by decide +kernel, by decide, (.inl (z_tw 1023 (by decide +kernel)))⟩, (z_tw 1024 (by decide +kernel)), (z_tw 1025 (by decide +kernel)), TX5, 9, rfl⟩
theorem cv_X11_332 : zCV RX11 332 3 (yX3_fold, cX3_fold, 6, some .long) 1 := ⟨⟨(z_tw 1031 (by decide +kernel)), (z_tw 12 (by decide +kernel)), ⟨by decide, by decide⟩, by decide +kernel, by decide, (.inl (z_tw 1028 (by decide +kernel)))⟩, (z_tw 1029 (by decide +kernel)), (z_tw 1030 (by decide +kernel)), TX3, 4, rfl⟩
theorem cv_X11_333 : zCV RX11 333 8 (yX8_fold, cX8_fold, 3, some .long) 1 := ⟨⟨(z_tw 1037 (by decide +kernel)), (z_tw 13 (by decide +kernel)), ⟨by decide, by decide⟩, by decide +kernel, by decide, (.inl (z_tw 1034 (by decide +kernel)))⟩, (z_tw 1035 (by decide +kernel)), (z_tw 1036 (by decide +kernel)), TX8, 2, rfl⟩
theorem cv_X11_334 : zCV RX11 334 6 (yX6_fold, cX6_fold, 3, some .long) 1 := ⟨⟨(z_tw 1042 (by decide +kernel)), (z_tw 4 (by decide +kernel)), ⟨by decide, by decide⟩, by decide +kernel, by decide, (.inl (z_tw 1039 (by decide +kernel)))⟩, (z_tw 1040 (by decide +kernel)), (z_tw 1041 (by decide +kernel)), TX6, 10, rfl⟩
theorem cv_X11_335 : zCV RX11 335 11 (yX11_count, cX11_count, 2, some .int) 1 := ⟨⟨(z_tw 977 (by decide +kernel)), (z_tw 1 (by decide +kernel)), ⟨by decide, by decide⟩, by decide +kernel, by decide, (.inl (z_tw 1044 (by decide +kernel)))⟩, (z_tw 975 (by decide +kernel)), (z_tw 976 (by decide +kernel)), TX11, 11, rfl⟩
theorem cv_X12_154 : zCV RX12 154 12 (yX12_isMadeOf, cX12_isMadeOf, 4, some .boolean) 1 := ⟨⟨(z_tw 1232 (by decide +kernel)), (z_tw 14 (by decide +kernel)), ⟨by decide, by decide⟩, by decide +kernel, by decide, (.inl (z_tw 1229 (by decide +kernel)))⟩, (z_tw 1231 (by decide +kernel)), (z_sel (n := 55) 35 (by decide +kernel)), TX12, 55, rfl⟩
theorem cv_X12_157 : zCV RX12 157 12 (yX12_sizeOf, cX12_sizeOf, 3, some .int) 1 := ⟨⟨(z_tw 1244 (by decide +kernel)), (z_tw 14 (by decide +kernel)), ⟨by decide, by decide⟩, by decide +kernel, by decide, (.inl (z_tw 1241 (by decide +kernel)))⟩, (z_tw 1243 (by decide +kernel)), (z_sel (n := 55) 36 (by decide +kernel)), TX12, 55, rfl⟩
theorem cv_X12_164 : zCV RX12 164 12 (yX12_priceOf, cX12_priceOf, 4, some .int) 2 := ⟨⟨(z_tw 1259 (by decide +kernel)), (z_tw 14 (by decide +kernel)), ⟨by decide, by decide⟩, by decide +kernel, by decide, (.inl (z_tw 1256 (by decide +kernel)))⟩, (z_tw 1258 (by decide +kernel)), (z_sel (n := 55) 37 (by decide +kernel)), TX12, 55, rfl⟩
theorem cv_X12_183 : zCV RX12 183 12 (yX12_readChain, cX12_readChain, 10, none) 0 := ⟨⟨(z_tw 1280 (by decide +kernel)), (z_tw 14 (by decide +kernel)), ⟨by decide, by decide⟩, by decide +kernel, by decide, (.inl (z_tw 1277 (by decide +kernel)))⟩, (z_tw 1279 (by decide +kernel)), (z_sel (n := 55) 38 (by decide +kernel)), TX12, 55, rfl⟩
theorem cv_X12_189 : zCV RX12 189 12 (yX12_gapOf, cX12_gapOf, 4, some .int) 1 := ⟨⟨(z_tw 1301 (by decide +kernel)), (z_tw 14 (by decide +kernel)), ⟨by decide, by decide⟩, by decide +kernel, by decide, (.inl (z_tw 1298 (by decide +kernel)))⟩, (z_tw 1300 (by decide +kernel)), (z_sel (n := 55) 41 (by decide +kernel)), TX12, 55, rfl⟩
theorem cv_X12_192 : zCV RX12 192 12 (yX12_spreadOf, cX12_spreadOf, 4, some .int) 1 := ⟨⟨(z_tw 1305 (by decide +kernel)), (z_tw 14 (by decide +kernel)), ⟨by decide, by decide⟩, by decide +kernel, by decide, (.inl (z_tw 1302 (by decide +kernel)))⟩, (z_tw 1304 (by decide +kernel)), (z_sel (n := 55) 42 (by decide +kernel)), TX12, 55, rfl⟩
theorem cv_X12_195 : zCV RX12 195 12 (yX12_holdsOf, cX12_holdsOf, 4, some .boolean) 1 := ⟨⟨(z_tw 1309 (by decide +kernel)), (z_tw 14 (by decide +kernel)), ⟨by decide, by decide⟩, by decide +kernel, by decide, (.inl (z_tw 1306 (by decide +kernel)))⟩, (z_tw 1308 (by decide +kernel)), (z_sel (n := 55) 43 (by decide +kernel)), TX12, 55, rfl⟩
theorem cv_X12_198 : zCV RX12 198 12 (yX12_isChain, cX12_isChain, 2, some .boolean) 1 := ⟨⟨(z_tw 1292 (by decide +kernel)), (z_tw 14 (by decide +kernel)), ⟨by decide, by decide⟩, by decide +kernel, by decide, (.inl (z_tw 1289 (by decide +kernel)))⟩, (z_tw 1291 (by decide +kernel)), (z_sel (n := 55) 39 (by decide +kernel)), TX12, 55, rfl⟩
theorem cv_X12_202 : zCV RX12 202 12 (yX12_toldOf, cX12_toldOf, 3, some .int) 2 := ⟨⟨(z_tw 1297 (by decide +kernel)), (z_tw 14 (by decide +kernel)), ⟨by decide, by decide⟩, by decide +kernel, by decide, (.inl (z_tw 1294 (by decide +kernel)))⟩, (z_tw 1296 (by decide +kernel)), (z_sel (n := 55) 40 (by decide +kernel)), TX12, 55, rfl⟩
theorem cv_X12_211 : zCV RX12 211 12 (yX12_allHold, cX12_allHold, 3, some .boolean) 0 := ⟨⟨(z_tw 1323 (by decide +kernel)), (z_tw 14 (by decide +kernel)), ⟨by decide, by decide⟩, by decide +kernel, by decide, (.inl (z_tw 1320 (by decide +kernel)))⟩, (z_tw 1322 (by decide +kernel)), (z_sel (n := 55) 44 (by decide +kernel)), TX12, 55, rfl⟩
theorem cv_X12_215 : zCV RX12 215 12 (yX12_isThing, cX12_isThing, 2, some .boolean) 1 := ⟨⟨(z_tw 1335 (by decide +kernel)), (z_tw 14 (by decide +kernel)), ⟨by decide, by decide⟩, by decide +kernel, by decide, (.inl (z_tw 1332 (by decide +kernel)))⟩, (z_tw 1334 (by decide +kernel)), (z_sel (n := 55) 45 (by decide +kernel)), TX12, 55, rfl⟩
theorem cv_X12_218 : zCV RX12 218 12 (yX12_commonOf, cX12_commonOf, 9, some .int) 3 := ⟨⟨(z_tw 1351 (by decide +kernel)), (z_tw 14 (by decide +kernel)), ⟨by decide, by decide⟩, by decide +kernel, by decide, (.inl (z_tw 1348 (by decide +kernel)))⟩, (z_tw 1350 (by decide +kernel)), (z_sel (n := 55) 48 (by decide +kernel)), TX12, 55, rfl⟩
theorem cv_X12_222 : zCV RX12 222 12 (yX12_knownBy, cX12_knownBy, 5, some .int) 1 := ⟨⟨(z_tw 1347 (by decide +kernel)), (z_tw 14 (by decide +kernel)), ⟨by decide, by decide⟩, by decide +kernel, by decide, (.inl (z_tw 1344 (by decide +kernel)))⟩, (z_tw 1346 (by decide +kernel)), (z_sel (n := 55) 47 (by decide +kernel)), TX12, 55, rfl⟩
theorem cv_X12_225 : zCV RX12 225 12 (yX12_knownAt, cX12_knownAt, 4, some .int) 2 := ⟨⟨(z_tw 1343 (by decide +kernel)), (z_tw 14 (by decide +kernel)), ⟨by decide, by decide⟩, by decide +kernel, by decide, (.inl (z_tw 1340 (by decide +kernel)))⟩, (z_tw 1342 (by decide +kernel)), (z_sel (n := 55) 46 (by decide +kernel)), TX12, 55, rfl⟩
theorem cv_X12_228 : zCV RX12 228 12 (yX12_turn, cX12_turn, 5, none) 1 := ⟨⟨(z_tw 1375 (by decide +kernel)), (z_tw 14 (by decide +kernel)), ⟨by decide, by decide⟩, by decide +kernel, by decide, (.inl (z_tw 1372 (by decide +kernel)))⟩, (z_tw 1374 (by decide +kernel)), (z_sel (n := 55) 53 (by decide +kernel)), TX12, 55, rfl⟩
theorem cv_X12_232 : zCV RX12 232 12 (yX12_grows, cX12_grows, 6, some .boolean) 1 := ⟨⟨(z_tw 1371 (by decide +kernel)), (z_tw 14 (by decide +kernel)), ⟨by decide, by decide⟩, by decide +kernel, by decide, (.inl (z_tw 1368 (by decide +kernel)))⟩, (z_tw 1370 (by decide +kernel)), (z_sel (n := 55) 52 (by decide +kernel)), TX12, 55, rfl⟩
theorem cv_X12_235 : zCV RX12 235 12 (yX12_mostPairs, cX12_mostPairs, 4, some .int) 1 := ⟨⟨(z_tw 1367 (by decide +kernel)), (z_tw 14 (by decide +kernel)), ⟨by decide, by decide⟩, by decide +kernel, by decide, (.inl (z_tw 1364 (by decide +kernel)))⟩, (z_tw 1366 (by decide +kernel)), (z_sel (n := 55) 51 (by decide +kernel)), TX12, 55, rfl⟩
theorem cv_X12_238 : zCV RX12 238 12 (yX12_layFits, cX12_layFits, 8, none) 4 := ⟨⟨(z_tw 1359 (by decide +kernel)), (z_tw 14 (by decide +kernel)), ⟨by decide, by decide⟩, by decide +kernel, by decide, (.inl (z_tw 1356 (by decide +kernel)))⟩, (z_tw 1358 (by decide +kernel)), (z_sel (n := 55) 49 (by decide +kernel)), TX12, 55, rfl⟩
theorem cv_X12_242 : zCV RX12 242 12 (yX12_layPairs, cX12_layPairs, 7, some .int) 1 := ⟨⟨(z_tw 1363 (by decide +kernel)), (z_tw 14 (by decide +kernel)), ⟨by decide, by decide⟩, by decide +kernel, by decide, (.inl (z_tw 1360 (by decide +kernel)))⟩, (z_tw 1362 (by decide +kernel)), (z_sel (n := 55) 50 (by decide +kernel)), TX12, 55, rfl⟩
theorem cv_X12_248 : zCV RX12 248 12 (yX12_placeOf, cX12_placeOf, 3, some .int) 1 := ⟨⟨(z_tw 1386 (by decide +kernel)), (z_tw 14 (by decide +kernel)), ⟨by decide, by decide⟩, by decide +kernel, by decide, (.inl (z_tw 1383 (by decide +kernel)))⟩, (z_tw 1385 (by decide +kernel)), (z_sel (n := 55) 54 (by decide +kernel)), TX12, 55, rfl⟩
theorem cv_X12_251 : zCV RX12 251 12 (yX12_isRight, cX12_isRight, 8, some .boolean) 2 := ⟨⟨(z_tw 1398 (by decide +kernel)), (z_tw 14 (by decide +kernel)), ⟨by decide, by decide⟩, by decide +kernel, by decide, (.inl (z_tw 1395 (by decide +kernel)))⟩, (z_tw 1397 (by decide +kernel)), (z_sel (n := 55) 55 (by decide +kernel)), TX12, 55, rfl⟩
theorem cv_X12_255 : zCV RX12 255 12 (yX12_isAllRight, cX12_isAllRight, 4, some .boolean) 1 := ⟨⟨(z_tw 1406 (by decide +kernel)), (z_tw 14 (by decide +kernel)), ⟨by decide, by decide⟩, by decide +kernel, by decide, (.inl (z_tw 1403 (by decide +kernel)))⟩, (z_tw 1405 (by decide +kernel)), (z_sel (n := 55) 56 (by decide +kernel)), TX12, 55, rfl⟩
theorem cv_X12_258 : zCV RX12 258 12 (yX12_change, cX12_change, 5, none) 3 := ⟨⟨(z_tw 1418 (by decide +kernel)), (z_tw 14 (by decide +kernel)), ⟨by decide, by decide⟩, by decide +kernel, by decide, (.inl (z_tw 1415 (by decide +kernel)))⟩, (z_tw 1417 (by decide +kernel)), (z_sel (n := 55) 58 (by decide +kernel)), TX12, 55, rfl⟩
theorem cv_X12_262 : zCV RX12 262 12 (yX12_setsRight, cX12_setsRight, 5, some .boolean) 3 := ⟨⟨(z_tw 1414 (by decide +kernel)), (z_tw 14 (by decide +kernel)), ⟨by decide, by decide⟩, by decide +kernel, by decide, (.inl (z_tw 1411 (by decide +kernel)))⟩, (z_tw 1413 (by decide +kernel)), (z_sel (n := 55) 57 (by decide +kernel)), TX12, 55, rfl⟩
theorem cv_X12_268 : zCV RX12 268 12 (yX12_lotsOf, cX12_lotsOf, 5, some .int) 1 := ⟨⟨(z_tw 1437 (by decide +kernel)), (z_tw 14 (by decide +kernel)), ⟨by decide, by decide⟩, by decide +kernel, by decide, (.inl (z_tw 1434 (by decide +kernel)))⟩, (z_tw 1436 (by decide +kernel)), (z_sel (n := 55) 60 (by decide +kernel)), TX12, 55, rfl⟩
theorem cv_X12_271 : zCV RX12 271 12 (yX12_blamedLots, cX12_blamedLots, 6, some .int) 0 := ⟨⟨(z_tw 1430 (by decide +kernel)), (z_tw 14 (by decide +kernel)), ⟨by decide, by decide⟩, by decide +kernel, by decide, (.inl (z_tw 1427 (by decide +kernel)))⟩, (z_tw 1429 (by decide +kernel)), (z_sel (n := 55) 59 (by decide +kernel)), TX12, 55, rfl⟩
theorem cv_X12_281 : zCV RX12 281 12 (yX12_doneOn, cX12_doneOn, 6, some .int) 1 := ⟨⟨(z_tw 1472 (by decide +kernel)), (z_tw 14 (by decide +kernel)), ⟨by decide, by decide⟩, by decide +kernel, by decide, (.inl (z_tw 1469 (by decide +kernel)))⟩, (z_tw 1471 (by decide +kernel)), (z_sel (n := 55) 63 (by decide +kernel)), TX12, 55, rfl⟩
theorem cv_X12_287 : zCV RX12 287 12 (yX12_layWay, cX12_layWay, 3, none) 1 := ⟨⟨(z_tw 1464 (by decide +kernel)), (z_tw 14 (by decide +kernel)), ⟨by decide, by decide⟩, by decide +kernel, by decide, (.inl (z_tw 1461 (by decide +kernel)))⟩, (z_tw 1463 (by decide +kernel)), (z_sel (n := 55) 61 (by decide +kernel)), TX12, 55, rfl⟩
theorem cv_X12_290 : zCV RX12 290 12 (yX12_wayCost, cX12_wayCost, 5, some .int) 1 := ⟨⟨(z_tw 1468 (by decide +kernel)), (z_tw 14 (by decide +kernel)), ⟨by decide, by decide⟩, by decide +kernel, by decide, (.inl (z_tw 1465 (by decide +kernel)))⟩, (z_tw 1467 (by decide +kernel)), (z_sel (n := 55) 62 (by decide +kernel)), TX12, 55, rfl⟩
theorem cv_X12_298 : zCV RX12 298 12 (yX12_isEnough, cX12_isEnough, 9, some .boolean) 1 := ⟨⟨(z_tw 1500 (by decide +kernel)), (z_tw 14 (by decide +kernel)), ⟨by decide, by decide⟩, by decide +kernel, by decide, (.inl (z_tw 1497 (by decide +kernel)))⟩, (z_tw 1499 (by decide +kernel)), (z_sel (n := 55) 64 (by decide +kernel)), TX12, 55, rfl⟩
theorem cv_X12_301 : zCV RX12 301 12 (yX12_costsOf, cX12_costsOf, 4, some .int) 1 := ⟨⟨(z_tw 1505 (by decide +kernel)), (z_tw 14 (by decide +kernel)), ⟨by decide, by decide⟩, by decide +kernel, by decide, (.inl (z_tw 1502 (by decide +kernel)))⟩, (z_tw 1504 (by decide +kernel)), (z_sel (n := 55) 65 (by decide +kernel)), TX12, 55, rfl⟩
theorem cv_X12_307 : zCV RX12 307 12 (yX12_offBy, cX12_offBy, 6, some .int) 2 := ⟨⟨(z_tw 1521 (by decide +kernel)), (z_tw 14 (by decide +kernel)), ⟨by decide, by decide⟩, by decide +kernel, by decide, (.inl (z_tw 1518 (by decide +kernel)))⟩, (z_tw 1520 (by decide +kernel)), (z_sel (n := 55) 66 (by decide +kernel)), TX12, 55, rfl⟩
theorem cv_X12_310 : zCV RX12 310 12 (yX12_howMany, cX12_howMany, 5, some .int) 1 := ⟨⟨(z_tw 1529 (by decide +kernel)), (z_tw 14 (by decide +kernel)), ⟨by decide, by decide⟩, by decide +kernel, by decide, (.inl (z_tw 1526 (by decide +kernel)))⟩, (z_tw 1528 (by decide +kernel)), (z_sel (n := 55) 67 (by decide +kernel)), TX12, 55, rfl⟩
theorem cv_X12_319 : zCV RX12 319 12 (yX12_mix, cX12_mix, 3, none) 1 := ⟨⟨(z_tw 1542 (by decide +kernel)), (z_tw 14 (by decide +kernel)), ⟨by decide, by decide⟩, by decide +kernel, by decide, (.inl (z_tw 1539 (by decide +kernel)))⟩, (z_tw 1541 (by decide +kernel)), (z_sel (n := 55) 69 (by decide +kernel)), TX12, 55, rfl⟩
theorem cv_X12_325 : zCV RX12 325 12 (yX12_mixDrawing, cX12_mixDrawing, 3, none) 0 := ⟨⟨(z_tw 1538 (by decide +kernel)), (z_tw 14 (by decide +kernel)), ⟨by decide, by decide⟩, by decide +kernel, by decide, (.inl (z_tw 1535 (by decide +kernel)))⟩, (z_tw 1537 (by decide +kernel)), (z_sel (n := 55) 68 (by decide +kernel)), TX12, 55, rfl⟩
theorem cv_X2_51 : zCV RX2 51 2 (yX2_prepare, cX2_prepare, 5, none) 3 := ⟨⟨(z_tw 636 (by decide +kernel)), (z_tw 6 (by decide +kernel)), ⟨by decide, by decide⟩, by decide +kernel, by decide, (.inl (z_tw 633 (by decide +kernel)))⟩, (z_tw 635 (by decide +kernel)), (z_sel (n := 9) 10 (by decide +kernel)), TX2, 9, rfl⟩
theorem cv_X2_55 : zCV RX2 55 2 (yX2_choose, cX2_choose, 6, none) 3 := ⟨⟨(z_tw 645 (by decide +kernel)), (z_tw 6 (by decide +kernel)), ⟨by decide, by decide⟩, by decide +kernel, by decide, (.inl (z_tw 642 (by decide +kernel)))⟩, (z_tw 644 (by decide +kernel)), (z_sel (n := 9) 11 (by decide +kernel)), TX2, 9, rfl⟩
theorem cv_X2_59 : zCV RX2 59 0 (yX0_roomOf, cX0_roomOf, 4, some .int) 2 := ⟨⟨(z_tw 584 (by decide +kernel)), (z_tw 5 (by decide +kernel)), ⟨by decide, by decide⟩, by decide +kernel, by decide, (.inl (z_tw 637 (by decide +kernel)))⟩, (z_tw 582 (by decide +kernel)), (z_tw 583 (by decide +kernel)), TX0, 8, rfl⟩
theorem cv_X2_63 : zCV RX2 63 0 (yX0_timesOf, cX0_timesOf, 5, some .int) 2 := ⟨⟨(z_tw 641 (by decide +kernel)), (z_tw 5 (by decide +kernel)), ⟨by decide, by decide⟩, by decide +kernel, by decide, (.inl (z_tw 638 (by decide +kernel)))⟩, (z_tw 639 (by decide +kernel)), (z_tw 640 (by decide +kernel)), TX0, 8, rfl⟩
theorem cv_X2_74 : zCV RX2 74 2 (yX2_hasRoom, cX2_hasRoom, 3, some .boolean) 1 := ⟨⟨(z_tw 649 (by decide +kernel)), (z_tw 6 (by decide +kernel)), ⟨by decide, by decide⟩, by decide +kernel, by decide, (.inl (z_tw 646 (by decide +kernel)))⟩, (z_tw 648 (by decide +kernel)), (z_sel (n := 9) 12 (by decide +kernel)), TX2, 9, rfl⟩
theorem cv_X2_84 : zCV RX2 84 1 (yX1_priceOf, cX1_priceOf, 4, some .int) 2 := ⟨⟨(z_tw 498 (by decide +kernel)), (z_tw 2 (by decide +kernel)), ⟨by decide, by decide⟩, by decide +kernel, by decide, (.inl (z_tw 651 (by decide +kernel)))⟩, (z_tw 496 (by decide +kernel)), (z_tw 497 (by decide +kernel)), TX1, 6, rfl⟩
theorem cv_X3_27 : zCV RX3 27 3 (yX3_findsAll, cX3_findsAll, 3, some .boolean) 1 := ⟨⟨(z_tw 927 (by decide +kernel)), (z_tw 12 (by decide +kernel)), ⟨by decide, by decide⟩, by decide +kernel, by decide, (.inl (z_tw 924 (by decide +kernel)))⟩, (z_tw 926 (by decide +kernel)), (z_sel (n := 4) 31 (by decide +kernel)), TX3, 4, rfl⟩
theorem cv_X3_31 : zCV RX3 31 3 (yX3_isBetter, cX3_isBetter, 4, some .boolean) 2 := ⟨⟨(z_tw 936 (by decide +kernel)), (z_tw 12 (by decide +kernel)), ⟨by decide, by decide⟩, by decide +kernel, by decide, (.inl (z_tw 933 (by decide +kernel)))⟩, (z_tw 935 (by decide +kernel)), (z_sel (n := 4) 33 (by decide +kernel)), TX3, 4, rfl⟩
theorem cv_X3_35 : zCV RX3 35 3 (yX3_costOf, cX3_costOf, 4, some .int) 1 := ⟨⟨(z_tw 940 (by decide +kernel)), (z_tw 12 (by decide +kernel)), ⟨by decide, by decide⟩, by decide +kernel, by decide, (.inl (z_tw 937 (by decide +kernel)))⟩, (z_tw 938 (by decide +kernel)), (z_tw 939 (by decide +kernel)), TX3, 4, rfl⟩
theorem cv_X3_48 : zCV RX3 48 3 (yX3_findsAsAsked, cX3_findsAsAsked, 8, some .boolean) 2 := ⟨⟨(z_tw 931 (by decide +kernel)), (z_tw 12 (by decide +kernel)), ⟨by decide, by decide⟩, by decide +kernel, by decide, (.inl (z_tw 928 (by decide +kernel)))⟩, (z_tw 930 (by decide +kernel)), (z_sel (n := 4) 32 (by decide +kernel)), TX3, 4, rfl⟩
theorem cv_X4_54 : zCV RX4 54 10 (yX10_isKnown, cX10_isKnown, 2, some .boolean) 1 := ⟨⟨(z_tw 712 (by decide +kernel)), (z_tw 7 (by decide +kernel)), ⟨by decide, by decide⟩, by decide +kernel, by decide, (.inl (z_tw 769 (by decide +kernel)))⟩, (z_tw 710 (by decide +kernel)), (z_tw 711 (by decide +kernel)), TX10, 9, rfl⟩
theorem cv_X4_74 : zCV RX4 74 4 (yX4_fitsChain, cX4_fitsChain, 10, some .boolean) 4 := ⟨⟨(z_tw 768 (by decide +kernel)), (z_tw 9 (by decide +kernel)), ⟨by decide, by decide⟩, by decide +kernel, by decide, (.inl (z_tw 782 (by decide +kernel)))⟩, (z_tw 766 (by decide +kernel)), (z_tw 767 (by decide +kernel)), TX4, 7, rfl⟩
theorem cv_X4_78 : zCV RX4 78 4 (yX4_isRight, cX4_isRight, 5, some .boolean) 3 := ⟨⟨(z_tw 781 (by decide +kernel)), (z_tw 9 (by decide +kernel)), ⟨by decide, by decide⟩, by decide +kernel, by decide, (.inl (z_tw 778 (by decide +kernel)))⟩, (z_tw 780 (by decide +kernel)), (z_sel (n := 7) 23 (by decide +kernel)), TX4, 7, rfl⟩
theorem cv_X4_82 : zCV RX4 82 4 (yX4_rightOnes, cX4_rightOnes, 5, some .int) 2 := ⟨⟨(z_tw 777 (by decide +kernel)), (z_tw 9 (by decide +kernel)), ⟨by decide, by decide⟩, by decide +kernel, by decide, (.inl (z_tw 791 (by decide +kernel)))⟩, (z_tw 775 (by decide +kernel)), (z_tw 776 (by decide +kernel)), TX4, 7, rfl⟩
theorem cv_X4_86 : zCV RX4 86 4 (yX4_setsRight, cX4_setsRight, 7, some .boolean) 5 := ⟨⟨(z_tw 795 (by decide +kernel)), (z_tw 9 (by decide +kernel)), ⟨by decide, by decide⟩, by decide +kernel, by decide, (.inl (z_tw 792 (by decide +kernel)))⟩, (z_tw 794 (by decide +kernel)), (z_sel (n := 7) 24 (by decide +kernel)), TX4, 7, rfl⟩
theorem cv_X4_99 : zCV RX4 99 4 (yX4_change, cX4_change, 5, none) 3 := ⟨⟨(z_tw 799 (by decide +kernel)), (z_tw 9 (by decide +kernel)), ⟨by decide, by decide⟩, by decide +kernel, by decide, (.inl (z_tw 796 (by decide +kernel)))⟩, (z_tw 798 (by decide +kernel)), (z_sel (n := 7) 25 (by decide +kernel)), TX4, 7, rfl⟩
theorem cv_X4_103 : zCV RX4 103 4 (yX4_lotsIn, cX4_lotsIn, 8, some .int) 2 := ⟨⟨(z_tw 815 (by decide +kernel)), (z_tw 9 (by decide +kernel)), ⟨by decide, by decide⟩, by decide +kernel, by decide, (.inl (z_tw 812 (by decide +kernel)))⟩, (z_tw 814 (by decide +kernel)), (z_sel (n := 7) 26 (by decide +kernel)), TX4, 7, rfl⟩
theorem cv_X4_107 : zCV RX4 107 4 (yX4_explains, cX4_explains, 3, some .boolean) 1 := ⟨⟨(z_tw 819 (by decide +kernel)), (z_tw 9 (by decide +kernel)), ⟨by decide, by decide⟩, by decide +kernel, by decide, (.inl (z_tw 816 (by decide +kernel)))⟩, (z_tw 818 (by decide +kernel)), (z_sel (n := 7) 27 (by decide +kernel)), TX4, 7, rfl⟩
theorem cv_X5_40 : zCV RX5 40 5 (yX5_choose, cX5_choose, 6, none) 3 := ⟨⟨(z_tw 861 (by decide +kernel)), (z_tw 11 (by decide +kernel)), ⟨by decide, by decide⟩, by decide +kernel, by decide, (.inl (z_tw 858 (by decide +kernel)))⟩, (z_tw 860 (by decide +kernel)), (z_sel (n := 9) 28 (by decide +kernel)), TX5, 9, rfl⟩
theorem cv_X5_56 : zCV RX5 56 5 (yX5_inTime, cX5_inTime, 7, some .boolean) 3 := ⟨⟨(z_tw 866 (by decide +kernel)), (z_tw 11 (by decide +kernel)), ⟨by decide, by decide⟩, by decide +kernel, by decide, (.inl (z_tw 863 (by decide +kernel)))⟩, (z_tw 865 (by decide +kernel)), (z_sel (n := 9) 29 (by decide +kernel)), TX5, 9, rfl⟩
theorem cv_X5_70 : zCV RX5 70 5 (yX5_shopFor, cX5_shopFor, 2, some .int) 1 := ⟨⟨(z_tw 870 (by decide +kernel)), (z_tw 11 (by decide +kernel)), ⟨by decide, by decide⟩, by decide +kernel, by decide, (.inl (z_tw 876 (by decide +kernel)))⟩, (z_tw 868 (by decide +kernel)), (z_tw 869 (by decide +kernel)), TX5, 9, rfl⟩
theorem cv_X6_35 : zCV RX6 35 6 (yX6_nextIsSign, cX6_nextIsSign, 1, some .boolean) 0 := ⟨⟨(z_tw 533 (by decide +kernel)), (z_tw 4 (by decide +kernel)), ⟨by decide, by decide⟩, by decide +kernel, by decide, (.inl (z_tw 530 (by decide +kernel)))⟩, (z_tw 532 (by decide +kernel)), (z_sel (n := 10) 0 (by decide +kernel)), TX6, 10, rfl⟩
theorem cv_X6_39 : zCV RX6 39 6 (yX6_readTerm, cX6_readTerm, 2, some .boolean) 0 := ⟨⟨(z_tw 542 (by decide +kernel)), (z_tw 4 (by decide +kernel)), ⟨by decide, by decide⟩, by decide +kernel, by decide, (.inl (z_tw 539 (by decide +kernel)))⟩, (z_tw 541 (by decide +kernel)), (z_sel (n := 10) 2 (by decide +kernel)), TX6, 10, rfl⟩
theorem cv_X6_42 : zCV RX6 42 6 (yX6_readLetter, cX6_readLetter, 2, some .boolean) 1 := ⟨⟨(z_tw 546 (by decide +kernel)), (z_tw 4 (by decide +kernel)), ⟨by decide, by decide⟩, by decide +kernel, by decide, (.inl (z_tw 543 (by decide +kernel)))⟩, (z_tw 545 (by decide +kernel)), (z_sel (n := 10) 3 (by decide +kernel)), TX6, 10, rfl⟩
theorem cv_X6_46 : zCV RX6 46 6 (yX6_readNumber, cX6_readNumber, 4, some .boolean) 0 := ⟨⟨(z_tw 550 (by decide +kernel)), (z_tw 4 (by decide +kernel)), ⟨by decide, by decide⟩, by decide +kernel, by decide, (.inl (z_tw 547 (by decide +kernel)))⟩, (z_tw 549 (by decide +kernel)), (z_sel (n := 10) 4 (by decide +kernel)), TX6, 10, rfl⟩
theorem cv_X6_62 : zCV RX6 62 6 (yX6_nextIs, cX6_nextIs, 3, some .boolean) 2 := ⟨⟨(z_tw 537 (by decide +kernel)), (z_tw 4 (by decide +kernel)), ⟨by decide, by decide⟩, by decide +kernel, by decide, (.inl (z_tw 534 (by decide +kernel)))⟩, (z_tw 536 (by decide +kernel)), (z_sel (n := 10) 1 (by decide +kernel)), TX6, 10, rfl⟩
theorem cv_X7_55 : zCV RX7 55 10 (yX10_isKnown, cX10_isKnown, 2, some .boolean) 1 := ⟨⟨(z_tw 712 (by decide +kernel)), (z_tw 7 (by decide +kernel)), ⟨by decide, by decide⟩, by decide +kernel, by decide, (.inl (z_tw 709 (by decide +kernel)))⟩, (z_tw 710 (by decide +kernel)), (z_tw 711 (by decide +kernel)), TX10, 9, rfl⟩
theorem cv_X7_65 : zCV RX7 65 7 (yX7_pairOneMore, cX7_pairOneMore, 8, some .boolean) 1 := ⟨⟨(z_tw 720 (by decide +kernel)), (z_tw 8 (by decide +kernel)), ⟨by decide, by decide⟩, by decide +kernel, by decide, (.inl (z_tw 717 (by decide +kernel)))⟩, (z_tw 719 (by decide +kernel)), (z_sel (n := 8) 18 (by decide +kernel)), TX7, 8, rfl⟩
theorem cv_X7_68 : zCV RX7 68 7 (yX7_settle, cX7_settle, 4, some .int) 2 := ⟨⟨(z_tw 733 (by decide +kernel)), (z_tw 8 (by decide +kernel)), ⟨by decide, by decide⟩, by decide +kernel, by decide, (.inl (z_tw 730 (by decide +kernel)))⟩, (z_tw 732 (by decide +kernel)), (z_sel (n := 8) 21 (by decide +kernel)), TX7, 8, rfl⟩
theorem cv_X7_72 : zCV RX7 72 7 (yX7_force, cX7_force, 6, some .boolean) 3 := ⟨⟨(z_tw 737 (by decide +kernel)), (z_tw 8 (by decide +kernel)), ⟨by decide, by decide⟩, by decide +kernel, by decide, (.inl (z_tw 734 (by decide +kernel)))⟩, (z_tw 736 (by decide +kernel)), (z_sel (n := 8) 22 (by decide +kernel)), TX7, 8, rfl⟩
theorem cv_X7_80 : zCV RX7 80 7 (yX7_queueFree, cX7_queueFree, 5, some .int) 1 := ⟨⟨(z_tw 724 (by decide +kernel)), (z_tw 8 (by decide +kernel)), ⟨by decide, by decide⟩, by decide +kernel, by decide, (.inl (z_tw 721 (by decide +kernel)))⟩, (z_tw 723 (by decide +kernel)), (z_sel (n := 8) 19 (by decide +kernel)), TX7, 8, rfl⟩
theorem cv_X7_84 : zCV RX7 84 7 (yX7_turnFrom, cX7_turnFrom, 6, none) 1 := ⟨⟨(z_tw 728 (by decide +kernel)), (z_tw 8 (by decide +kernel)), ⟨by decide, by decide⟩, by decide +kernel, by decide, (.inl (z_tw 725 (by decide +kernel)))⟩, (z_tw 727 (by decide +kernel)), (z_sel (n := 8) 20 (by decide +kernel)), TX7, 8, rfl⟩
theorem cv_X7_88 : zCV RX7 88 7 (yX7_partnerOf, cX7_partnerOf, 2, some .int) 1 := ⟨⟨(z_tw 745 (by decide +kernel)), (z_tw 8 (by decide +kernel)), ⟨by decide, by decide⟩, by decide +kernel, by decide, (.inl (z_tw 742 (by decide +kernel)))⟩, (z_tw 743 (by decide +kernel)), (z_tw 744 (by decide +kernel)), TX7, 8, rfl⟩
theorem cv_X8_19 : zCV RX8 19 8 (yX8_offDue, cX8_offDue, 6, some .int) 2 := ⟨⟨(z_tw 969 (by decide +kernel)), (z_tw 13 (by decide +kernel)), ⟨by decide, by decide⟩, by decide +kernel, by decide, (.inl (z_tw 966 (by decide +kernel)))⟩, (z_tw 968 (by decide +kernel)), (z_sel (n := 2) 34 (by decide +kernel)), TX8, 2, rfl⟩
theorem cv_X9_35 : zCV RX9 35 9 (yX9_comeBy, cX9_comeBy, 5, some .int) 2 := ⟨⟨(z_tw 899 (by decide +kernel)), (z_tw 10 (by decide +kernel)), ⟨by decide, by decide⟩, by decide +kernel, by decide, (.inl (z_tw 896 (by decide +kernel)))⟩, (z_tw 898 (by decide +kernel)), (z_sel (n := 5) 30 (by decide +kernel)), TX9, 5, rfl⟩
theorem cs_X0_90 : zCS RX0 90 (yX11_within, cX11_within, 3, some .boolean) 3 := ⟨⟨(z_tw 456 (by decide +kernel)), (z_tw 1 (by decide +kernel)), ⟨by decide, by decide⟩, by decide +kernel, by decide, (.inr ⟨"SmallMakers", (z_tw 619 (by decide +kernel))⟩)⟩, (z_tw 455 (by decide +kernel))⟩
theorem cs_X0_94 : zCS RX0 94 (yX0_commonDivisor, cX0_commonDivisor, 11, some .long) 2 := ⟨⟨(z_tw 622 (by decide +kernel)), (z_tw 5 (by decide +kernel)), ⟨by decide, by decide⟩, by decide +kernel, by decide, (.inl (z_tw 620 (by decide +kernel)))⟩, (z_tw 621 (by decide +kernel))⟩
theorem cs_X0_100 : zCS RX0 100 (yJ7_fill_d0a16, cJ7_fill_d0a16, 5, none) 2 := ⟨⟨(z_tw 603 (by decide +kernel)), (z_tw 3 (by decide +kernel)), ⟨by decide, by decide⟩, by decide +kernel, by decide, (.inl (z_tw 601 (by decide +kernel)))⟩, (z_tw 602 (by decide +kernel))⟩
theorem cs_X0_120 : zCS RX0 120 (yX11_folded, cX11_folded, 4, some .long) 2 := ⟨⟨(z_tw 993 (by decide +kernel)), (z_tw 1 (by decide +kernel)), ⟨by decide, by decide⟩, by decide +kernel, by decide, (.inr ⟨"SmallMakers", (z_tw 1005 (by decide +kernel))⟩)⟩, (z_tw 992 (by decide +kernel))⟩
theorem cs_X1_38 : zCS RX1 38 (yX1_turnedSize, cX1_turnedSize, 1, some .int) 1 := ⟨⟨(z_tw 486 (by decide +kernel)), (z_tw 2 (by decide +kernel)), ⟨by decide, by decide⟩, by decide +kernel, by decide, (.inl (z_tw 484 (by decide +kernel)))⟩, (z_tw 485 (by decide +kernel))⟩
theorem cs_X1_42 : zCS RX1 42 (yX1_turnedPrice, cX1_turnedPrice, 1, some .int) 1 := ⟨⟨(z_tw 501 (by decide +kernel)), (z_tw 2 (by decide +kernel)), ⟨by decide, by decide⟩, by decide +kernel, by decide, (.inl (z_tw 499 (by decide +kernel)))⟩, (z_tw 500 (by decide +kernel))⟩
theorem cs_X1_49 : zCS RX1 49 (yX11_folded, cX11_folded, 4, some .long) 2 := ⟨⟨(z_tw 993 (by decide +kernel)), (z_tw 1 (by decide +kernel)), ⟨by decide, by decide⟩, by decide +kernel, by decide, (.inr ⟨"SmallMakers", (z_tw 991 (by decide +kernel))⟩)⟩, (z_tw 992 (by decide +kernel))⟩
theorem cs_X1_56 : zCS RX1 56 (yX11_foldedRow, cX11_foldedRow, 7, some .long) 3 := ⟨⟨(z_tw 998 (by decide +kernel)), (z_tw 1 (by decide +kernel)), ⟨by decide, by decide⟩, by decide +kernel, by decide, (.inr ⟨"SmallMakers", (z_tw 996 (by decide +kernel))⟩)⟩, (z_tw 997 (by decide +kernel))⟩
theorem cs_X10_69 : zCS RX10 69 (yX11_folded, cX11_folded, 4, some .long) 2 := ⟨⟨(z_tw 993 (by decide +kernel)), (z_tw 1 (by decide +kernel)), ⟨by decide, by decide⟩, by decide +kernel, by decide, (.inr ⟨"SmallMakers", (z_tw 1010 (by decide +kernel))⟩)⟩, (z_tw 992 (by decide +kernel))⟩
theorem cs_X11_86 : zCS RX11 86 (yX11_named, cX11_named, 2, some .boolean) 2 := ⟨⟨(z_tw 449 (by decide +kernel)), (z_tw 1 (by decide +kernel)), ⟨by decide, by decide⟩, by decide +kernel, by decide, (.inl (z_tw 447 (by decide +kernel)))⟩, (z_tw 448 (by decide +kernel))⟩
theorem cs_X11_94 : zCS RX11 94 (yX11_within, cX11_within, 3, some .boolean) 3 := ⟨⟨(z_tw 456 (by decide +kernel)), (z_tw 1 (by decide +kernel)), ⟨by decide, by decide⟩, by decide +kernel, by decide, (.inl (z_tw 454 (by decide +kernel)))⟩, (z_tw 455 (by decide +kernel))⟩
theorem cs_X11_106 : zCS RX11 106 (yX11_exchange, cX11_exchange, 4, some .int) 3 := ⟨⟨(z_tw 467 (by decide +kernel)), (z_tw 1 (by decide +kernel)), ⟨by decide, by decide⟩, by decide +kernel, by decide, (.inl (z_tw 465 (by decide +kernel)))⟩, (z_tw 466 (by decide +kernel))⟩
theorem cs_X11_131 : zCS RX11 131 (yX11_lettersIn, cX11_lettersIn, 5, some .int) 1 := ⟨⟨(z_tw 512 (by decide +kernel)), (z_tw 1 (by decide +kernel)), ⟨by decide, by decide⟩, by decide +kernel, by decide, (.inl (z_tw 510 (by decide +kernel)))⟩, (z_tw 511 (by decide +kernel))⟩
theorem cs_X11_338 : zCS RX11 338 (yX11_folded, cX11_folded, 4, some .long) 2 := ⟨⟨(z_tw 993 (by decide +kernel)), (z_tw 1 (by decide +kernel)), ⟨by decide, by decide⟩, by decide +kernel, by decide, (.inl (z_tw 999 (by decide +kernel)))⟩, (z_tw 992 (by decide +kernel))⟩
theorem cs_X12_142 : zCS RX12 142 (yX12_lies, cX12_lies, 3, some .boolean) 3 := ⟨⟨(z_tw 1228 (by decide +kernel)), (z_tw 14 (by decide +kernel)), ⟨by decide, by decide⟩, by decide +kernel, by decide, (.inl (z_tw 1226 (by decide +kernel)))⟩, (z_tw 1227 (by decide +kernel))⟩
theorem cs_X12_150 : zCS RX12 150 (yX12_isPart, cX12_isPart, 1, some .boolean) 1 := ⟨⟨(z_tw 1225 (by decide +kernel)), (z_tw 14 (by decide +kernel)), ⟨by decide, by decide⟩, by decide +kernel, by decide, (.inl (z_tw 1223 (by decide +kernel)))⟩, (z_tw 1224 (by decide +kernel))⟩
theorem cs_X12_161 : zCS RX12 161 (yX12_isGrade, cX12_isGrade, 1, some .boolean) 1 := ⟨⟨(z_tw 1251 (by decide +kernel)), (z_tw 14 (by decide +kernel)), ⟨by decide, by decide⟩, by decide +kernel, by decide, (.inl (z_tw 1249 (by decide +kernel)))⟩, (z_tw 1250 (by decide +kernel))⟩
theorem cs_X12_245 : zCS RX12 245 (yX12_isMachine, cX12_isMachine, 1, some .boolean) 1 := ⟨⟨(z_tw 1382 (by decide +kernel)), (z_tw 14 (by decide +kernel)), ⟨by decide, by decide⟩, by decide +kernel, by decide, (.inl (z_tw 1380 (by decide +kernel)))⟩, (z_tw 1381 (by decide +kernel))⟩
theorem cs_X12_265 : zCS RX12 265 (yX12_ones, cX12_ones, 3, some .int) 1 := ⟨⟨(z_tw 1433 (by decide +kernel)), (z_tw 14 (by decide +kernel)), ⟨by decide, by decide⟩, by decide +kernel, by decide, (.inl (z_tw 1431 (by decide +kernel)))⟩, (z_tw 1432 (by decide +kernel))⟩
theorem cs_X12_275 : zCS RX12 275 (yX12_isShop, cX12_isShop, 1, some .boolean) 1 := ⟨⟨(z_tw 1448 (by decide +kernel)), (z_tw 14 (by decide +kernel)), ⟨by decide, by decide⟩, by decide +kernel, by decide, (.inl (z_tw 1446 (by decide +kernel)))⟩, (z_tw 1447 (by decide +kernel))⟩
theorem cs_X2_87 : zCS RX2 87 (yX11_named, cX11_named, 2, some .boolean) 2 := ⟨⟨(z_tw 449 (by decide +kernel)), (z_tw 1 (by decide +kernel)), ⟨by decide, by decide⟩, by decide +kernel, by decide, (.inr ⟨"SmallMakers", (z_tw 656 (by decide +kernel))⟩)⟩, (z_tw 448 (by decide +kernel))⟩
theorem cs_X3_39 : zCS RX3 39 (yJ6_compare_7cf53, cJ6_compare_7cf53, 2, some .int) 2 := ⟨⟨(z_tw 943 (by decide +kernel)), (z_tw 17 (by decide +kernel)), ⟨by decide, by decide⟩, by decide +kernel, by decide, (.inl (z_tw 941 (by decide +kernel)))⟩, (z_tw 942 (by decide +kernel))⟩
theorem cs_X3_45 : zCS RX3 45 (yJ6_bitCount_0f7a4, cJ6_bitCount_0f7a4, 1, some .int) 1 := ⟨⟨(z_tw 822 (by decide +kernel)), (z_tw 17 (by decide +kernel)), ⟨by decide, by decide⟩, by decide +kernel, by decide, (.inl (z_tw 944 (by decide +kernel)))⟩, (z_tw 821 (by decide +kernel))⟩
theorem cs_X3_53 : zCS RX3 53 (yX11_folded, cX11_folded, 4, some .long) 2 := ⟨⟨(z_tw 993 (by decide +kernel)), (z_tw 1 (by decide +kernel)), ⟨by decide, by decide⟩, by decide +kernel, by decide, (.inr ⟨"SmallMakers", (z_tw 1032 (by decide +kernel))⟩)⟩, (z_tw 992 (by decide +kernel))⟩
theorem cs_X3_57 : zCS RX3 57 (yX11_foldedRow, cX11_foldedRow, 7, some .long) 3 := ⟨⟨(z_tw 998 (by decide +kernel)), (z_tw 1 (by decide +kernel)), ⟨by decide, by decide⟩, by decide +kernel, by decide, (.inr ⟨"SmallMakers", (z_tw 1033 (by decide +kernel))⟩)⟩, (z_tw 997 (by decide +kernel))⟩
theorem cs_X4_32 : zCS RX4 32 (yX11_named, cX11_named, 2, some .boolean) 2 := ⟨⟨(z_tw 449 (by decide +kernel)), (z_tw 1 (by decide +kernel)), ⟨by decide, by decide⟩, by decide +kernel, by decide, (.inr ⟨"SmallMakers", (z_tw 755 (by decide +kernel))⟩)⟩, (z_tw 448 (by decide +kernel))⟩
theorem cs_X4_36 : zCS RX4 36 (yX11_exchange, cX11_exchange, 4, some .int) 3 := ⟨⟨(z_tw 467 (by decide +kernel)), (z_tw 1 (by decide +kernel)), ⟨by decide, by decide⟩, by decide +kernel, by decide, (.inr ⟨"SmallMakers", (z_tw 756 (by decide +kernel))⟩)⟩, (z_tw 466 (by decide +kernel))⟩
theorem cs_X4_110 : zCS RX4 110 (yJ6_bitCount_0f7a4, cJ6_bitCount_0f7a4, 1, some .int) 1 := ⟨⟨(z_tw 822 (by decide +kernel)), (z_tw 17 (by decide +kernel)), ⟨by decide, by decide⟩, by decide +kernel, by decide, (.inl (z_tw 820 (by decide +kernel)))⟩, (z_tw 821 (by decide +kernel))⟩
theorem cs_X4_119 : zCS RX4 119 (yX11_foldedRow, cX11_foldedRow, 7, some .long) 3 := ⟨⟨(z_tw 998 (by decide +kernel)), (z_tw 1 (by decide +kernel)), ⟨by decide, by decide⟩, by decide +kernel, by decide, (.inr ⟨"SmallMakers", (z_tw 1015 (by decide +kernel))⟩)⟩, (z_tw 997 (by decide +kernel))⟩
theorem cs_X4_123 : zCS RX4 123 (yX11_folded, cX11_folded, 4, some .long) 2 := ⟨⟨(z_tw 993 (by decide +kernel)), (z_tw 1 (by decide +kernel)), ⟨by decide, by decide⟩, by decide +kernel, by decide, (.inr ⟨"SmallMakers", (z_tw 1016 (by decide +kernel))⟩)⟩, (z_tw 992 (by decide +kernel))⟩
theorem cs_X5_66 : zCS RX5 66 (yX11_named, cX11_named, 2, some .boolean) 2 := ⟨⟨(z_tw 449 (by decide +kernel)), (z_tw 1 (by decide +kernel)), ⟨by decide, by decide⟩, by decide +kernel, by decide, (.inr ⟨"SmallMakers", (z_tw 871 (by decide +kernel))⟩)⟩, (z_tw 448 (by decide +kernel))⟩
theorem cs_X5_74 : zCS RX5 74 (yX5_roundedUp, cX5_roundedUp, 2, some .int) 2 := ⟨⟨(z_tw 879 (by decide +kernel)), (z_tw 11 (by decide +kernel)), ⟨by decide, by decide⟩, by decide +kernel, by decide, (.inl (z_tw 877 (by decide +kernel)))⟩, (z_tw 878 (by decide +kernel))⟩
theorem cs_X5_78 : zCS RX5 78 (yX11_folded, cX11_folded, 4, some .long) 2 := ⟨⟨(z_tw 993 (by decide +kernel)), (z_tw 1 (by decide +kernel)), ⟨by decide, by decide⟩, by decide +kernel, by decide, (.inr ⟨"SmallMakers", (z_tw 1027 (by decide +kernel))⟩)⟩, (z_tw 992 (by decide +kernel))⟩
theorem cs_X6_58 : zCS RX6 58 (yX11_within, cX11_within, 3, some .boolean) 3 := ⟨⟨(z_tw 456 (by decide +kernel)), (z_tw 1 (by decide +kernel)), ⟨by decide, by decide⟩, by decide +kernel, by decide, (.inr ⟨"SmallMakers", (z_tw 538 (by decide +kernel))⟩)⟩, (z_tw 455 (by decide +kernel))⟩
theorem cs_X6_66 : zCS RX6 66 (yX11_foldedRow, cX11_foldedRow, 7, some .long) 3 := ⟨⟨(z_tw 998 (by decide +kernel)), (z_tw 1 (by decide +kernel)), ⟨by decide, by decide⟩, by decide +kernel, by decide, (.inr ⟨"SmallMakers", (z_tw 1043 (by decide +kernel))⟩)⟩, (z_tw 997 (by decide +kernel))⟩
theorem cs_X7_40 : zCS RX7 40 (yJ7_fill_53178, cJ7_fill_53178, 4, none) 2 := ⟨⟨(z_tw 36 (by decide +kernel)), (z_tw 3 (by decide +kernel)), ⟨by decide, by decide⟩, by decide +kernel, by decide, (.inl (z_tw 707 (by decide +kernel)))⟩, (z_tw 35 (by decide +kernel))⟩
theorem cs_X7_76 : zCS RX7 76 (yX11_named, cX11_named, 2, some .boolean) 2 := ⟨⟨(z_tw 449 (by decide +kernel)), (z_tw 1 (by decide +kernel)), ⟨by decide, by decide⟩, by decide +kernel, by decide, (.inr ⟨"SmallMakers", (z_tw 729 (by decide +kernel))⟩)⟩, (z_tw 448 (by decide +kernel))⟩
theorem cs_X8_23 : zCS RX8 23 (yJ6_bitCount_0f7a4, cJ6_bitCount_0f7a4, 1, some .int) 1 := ⟨⟨(z_tw 822 (by decide +kernel)), (z_tw 17 (by decide +kernel)), ⟨by decide, by decide⟩, by decide +kernel, by decide, (.inl (z_tw 973 (by decide +kernel)))⟩, (z_tw 821 (by decide +kernel))⟩
theorem cs_X8_34 : zCS RX8 34 (yX11_foldedRow, cX11_foldedRow, 7, some .long) 3 := ⟨⟨(z_tw 998 (by decide +kernel)), (z_tw 1 (by decide +kernel)), ⟨by decide, by decide⟩, by decide +kernel, by decide, (.inr ⟨"SmallMakers", (z_tw 1038 (by decide +kernel))⟩)⟩, (z_tw 997 (by decide +kernel))⟩
theorem cs_X9_39 : zCS RX9 39 (yX11_folded, cX11_folded, 4, some .long) 2 := ⟨⟨(z_tw 993 (by decide +kernel)), (z_tw 1 (by decide +kernel)), ⟨by decide, by decide⟩, by decide +kernel, by decide, (.inr ⟨"SmallMakers", (z_tw 1021 (by decide +kernel))⟩)⟩, (z_tw 992 (by decide +kernel))⟩
theorem cs_X9_43 : zCS RX9 43 (yX11_foldedRow, cX11_foldedRow, 7, some .long) 3 := ⟨⟨(z_tw 998 (by decide +kernel)), (z_tw 1 (by decide +kernel)), ⟨by decide, by decide⟩, by decide +kernel, by decide, (.inr ⟨"SmallMakers", (z_tw 1022 (by decide +kernel))⟩)⟩, (z_tw 997 (by decide +kernel))⟩
theorem mm_X0_80 : zMm RX0 80 Lib.Math.min.name Lib.Math.min.code 2 := ⟨(z_tw 585 (by decide +kernel)), (z_tw 586 (by decide +kernel)), (z_tw 16 (by decide +kernel)), (z_tw 587 (by decide +kernel))⟩
theorem mm_X0_113 : zMm RX0 113 Lib.Math.max.name Lib.Math.max.code 2 := ⟨(z_tw 616 (by decide +kernel)), (z_tw 617 (by decide +kernel)), (z_tw 16 (by decide +kernel)), (z_tw 618 (by decide +kernel))⟩
theorem mm_X10_61 : zMm RX10 61 Lib.Math.max.name Lib.Math.max.code 2 := ⟨(z_tw 689 (by decide +kernel)), (z_tw 617 (by decide +kernel)), (z_tw 16 (by decide +kernel)), (z_tw 618 (by decide +kernel))⟩
theorem mm_X10_66 : zMm RX10 66 Lib.Math.min.name Lib.Math.min.code 2 := ⟨(z_tw 694 (by decide +kernel)), (z_tw 586 (by decide +kernel)), (z_tw 16 (by decide +kernel)), (z_tw 587 (by decide +kernel))⟩
theorem mm_X2_33 : zMm RX2 33 Lib.Math.min.name Lib.Math.min.code 2 := ⟨(z_tw 632 (by decide +kernel)), (z_tw 586 (by decide +kernel)), (z_tw 16 (by decide +kernel)), (z_tw 587 (by decide +kernel))⟩
theorem mm_X8_29 : zMm RX8 29 Lib.Math.abs.name Lib.Math.abs.code 1 := ⟨(z_tw 970 (by decide +kernel)), (z_tw 971 (by decide +kernel)), (z_tw 16 (by decide +kernel)), (z_tw 972 (by decide +kernel))⟩
theorem sy_X0_50 : zSy RX0 50 := ⟨(z_tw 559 (by decide +kernel)), (z_tw 561 (by decide +kernel)), (z_tw 560 (by decide +kernel)), (z_tw 15 (by decide +kernel))⟩
theorem sy_X2_78 : zSy RX2 78 := ⟨(z_tw 650 (by decide +kernel)), (z_tw 561 (by decide +kernel)), (z_tw 560 (by decide +kernel)), (z_tw 15 (by decide +kernel))⟩
theorem sy_X5_44 : zSy RX5 44 := ⟨(z_tw 862 (by decide +kernel)), (z_tw 561 (by decide +kernel)), (z_tw 560 (by decide +kernel)), (z_tw 15 (by decide +kernel))⟩
theorem sy_X7_49 : zSy RX7 49 := ⟨(z_tw 708 (by decide +kernel)), (z_tw 561 (by decide +kernel)), (z_tw 560 (by decide +kernel)), (z_tw 15 (by decide +kernel))⟩
