/-! LAYER C: the law's loop, its start -/
theorem df_X11 : ∀ j, j < 11 → defaultValue (tyX11 j) = vp_V [.null, .null, .null, .null, .null, .null, .null, .null, .null, .null, .null] j := by
  intro j hj
  rcases (show j = 0 ∨ j = 1 ∨ j = 2 ∨ j = 3 ∨ j = 4 ∨ j = 5 ∨ j = 6 ∨ j = 7 ∨ j = 8 ∨ j = 9 ∨ j = 10 by omega) with rfl | rfl | rfl | rfl | rfl | rfl | rfl | rfl | rfl | rfl | rfl <;> rfl
theorem df_X12 : ∀ j, j < 55 → defaultValue (tyX12 j) = vp_V [.null, .null, .null, .null, .null, .null, .int 0, .null, .int 0, .null, .null, .null, .null, .null, .int 0, .int 0, .null, .null, .null, .null, .null, .null, .null, .null, .null, .null, .int 0, .null, .null, .int 0, .null, .null, .int 0, .null, .null, .null, .int 0, .null, .int 0, .int 0, .int 0, .null, .null, .null, .null, .null, .null, .null, .null, .null, .null, .null, .null, .null, .long 0] j := by
  intro j hj
  rcases (show j = 0 ∨ j = 1 ∨ j = 2 ∨ j = 3 ∨ j = 4 ∨ j = 5 ∨ j = 6 ∨ j = 7 ∨ j = 8 ∨ j = 9 ∨ j = 10 ∨ j = 11 ∨ j = 12 ∨ j = 13 ∨ j = 14 ∨ j = 15 ∨ j = 16 ∨ j = 17 ∨ j = 18 ∨ j = 19 ∨ j = 20 ∨ j = 21 ∨ j = 22 ∨ j = 23 ∨ j = 24 ∨ j = 25 ∨ j = 26 ∨ j = 27 ∨ j = 28 ∨ j = 29 ∨ j = 30 ∨ j = 31 ∨ j = 32 ∨ j = 33 ∨ j = 34 ∨ j = 35 ∨ j = 36 ∨ j = 37 ∨ j = 38 ∨ j = 39 ∨ j = 40 ∨ j = 41 ∨ j = 42 ∨ j = 43 ∨ j = 44 ∨ j = 45 ∨ j = 46 ∨ j = 47 ∨ j = 48 ∨ j = 49 ∨ j = 50 ∨ j = 51 ∨ j = 52 ∨ j = 53 ∨ j = 54 by omega) with rfl | rfl | rfl | rfl | rfl | rfl | rfl | rfl | rfl | rfl | rfl | rfl | rfl | rfl | rfl | rfl | rfl | rfl | rfl | rfl | rfl | rfl | rfl | rfl | rfl | rfl | rfl | rfl | rfl | rfl | rfl | rfl | rfl | rfl | rfl | rfl | rfl | rfl | rfl | rfl | rfl | rfl | rfl | rfl | rfl | rfl | rfl | rfl | rfl | rfl | rfl | rfl | rfl | rfl | rfl <;> rfl
theorem cn_L1 : zCN R_law 7 9 (yX11_init, cX11_init, 1, none) 11 := ⟨(z_tw 22 (by decide +kernel)), rfl, (z_tw 1 (by decide +kernel)), ⟨by decide, by decide⟩, by decide +kernel, rfl, (.inl (z_tw 20 (by decide +kernel))), (z_tw 21 (by decide +kernel)), (z_tw 18 (by decide +kernel)), (z_tw 19 (by decide +kernel))⟩
theorem cn_L2 : zCN R_law 10 12 (yX12_init, cX12_init, 2, none) 55 := ⟨(z_tw 1049 (by decide +kernel)), rfl, (z_tw 14 (by decide +kernel)), ⟨by decide, by decide⟩, by decide +kernel, rfl, (.inl (z_tw 1047 (by decide +kernel))), (z_tw 1048 (by decide +kernel)), (z_tw 1045 (by decide +kernel)), (z_tw 1046 (by decide +kernel))⟩
theorem l_len {L i : Nat} (hL : L ≤ 3072) (hi : i ≤ L) (h : ¬ Int32.ofNat L - 6 < nI i) : i + 6 ≤ L := by
  by_cases h6 : 6 ≤ L
  · have e : Int32.ofNat L - 6 = nI (L - 6) := by
      have h1 : Int32.ofNat L = nI (L - 6) + nI 6 := by rw [nI_add, Nat.sub_add_cancel h6]; rfl
      rw [h1]
      show nI (L - 6) + nI 6 - nI 6 = _
      exact Int32.add_sub_cancel _ _
    rw [e, nI_ltI (by omega) (by omega)] at h
    omega
  · exfalso
    refine h ?_
    have hL5 : L < 6 := by omega
    have hd : ∀ L, L < 6 → ∀ i, i < 6 → Int32.ofNat L - 6 < nI i := by decide +kernel
    exact hd L hL5 i (by omega)
section LF
variable {G : va_G × (Nat → ClassId)} {p : Program} {l : Launch} {e : Env} {s : State} {m : MethodId} {below : List Frame} {meth : Method} {c : Code} {b L : Nat} {xs : Nat → Int32}
theorem l_switch {i : Nat} {x : Int32} {μ ν : ZM} (C : lC G p s m meth c b L xs) (hi : i + 6 ≤ L) (h : Rel μ ν) (hn : ∀ μ ν, Rel μ ν → lW G p l e s m below meth c b 1430 μ ν i []) : lW G p l e s m below meth c b 33 μ ν i [.int x] := by
  intro H locs ls hP hO hS hl
  by_cases hx : x.toInt < 0 ∨ 39 < x.toInt
  · exact lv_tableOut C.1.1 C.1.2.1 dL_law_33 hx (tgt := 1430) (by decide) (hn _ _ h H locs ls hP hO hS hl)
  · obtain ⟨k, hk, hxk⟩ : ∃ k : Nat, k < 40 ∧ x.toInt = (k : Int) := ⟨x.toInt.toNat, by omega, by omega⟩
    rcases (show k = 0 ∨ k = 1 ∨ k = 2 ∨ k = 3 ∨ k = 4 ∨ k = 5 ∨ k = 6 ∨ k = 7 ∨ k = 8 ∨ k = 9 ∨ k = 10 ∨ k = 11 ∨ k = 12 ∨ k = 13 ∨ k = 14 ∨ k = 15 ∨ k = 16 ∨ k = 17 ∨ k = 18 ∨ k = 19 ∨ k = 20 ∨ k = 21 ∨ k = 22 ∨ k = 23 ∨ k = 24 ∨ k = 25 ∨ k = 26 ∨ k = 27 ∨ k = 28 ∨ k = 29 ∨ k = 30 ∨ k = 31 ∨ k = 32 ∨ k = 33 ∨ k = 34 ∨ k = 35 ∨ k = 36 ∨ k = 37 ∨ k = 38 ∨ k = 39 by omega) with rfl | rfl | rfl | rfl | rfl | rfl | rfl | rfl | rfl | rfl | rfl | rfl | rfl | rfl | rfl | rfl | rfl | rfl | rfl | rfl | rfl | rfl | rfl | rfl | rfl | rfl | rfl | rfl | rfl | rfl | rfl | rfl | rfl | rfl | rfl | rfl | rfl | rfl | rfl | rfl
    · exact lv_tableIn C.1.1 C.1.2.1 dL_law_33 (by omega) (by omega) (off := 175) (by rw [hxk]; rfl) (tgt := 208) (by decide) (la_0 C hi h hn H locs ls hP hO hS hl)
    · exact lv_tableIn C.1.1 C.1.2.1 dL_law_33 (by omega) (by omega) (off := 218) (by rw [hxk]; rfl) (tgt := 251) (by decide) (la_1 C hi h hn H locs ls hP hO hS hl)
    · exact lv_tableIn C.1.1 C.1.2.1 dL_law_33 (by omega) (by omega) (off := 251) (by rw [hxk]; rfl) (tgt := 284) (by decide) (la_2 C hi h hn H locs ls hP hO hS hl)
    · exact lv_tableIn C.1.1 C.1.2.1 dL_law_33 (by omega) (by omega) (off := 274) (by rw [hxk]; rfl) (tgt := 307) (by decide) (la_3 C hi h hn H locs ls hP hO hS hl)
    · exact lv_tableIn C.1.1 C.1.2.1 dL_law_33 (by omega) (by omega) (off := 317) (by rw [hxk]; rfl) (tgt := 350) (by decide) (la_4 C hi h hn H locs ls hP hO hS hl)
    · exact lv_tableIn C.1.1 C.1.2.1 dL_law_33 (by omega) (by omega) (off := 350) (by rw [hxk]; rfl) (tgt := 383) (by decide) (la_5 C hi h hn H locs ls hP hO hS hl)
    · exact lv_tableIn C.1.1 C.1.2.1 dL_law_33 (by omega) (by omega) (off := 393) (by rw [hxk]; rfl) (tgt := 426) (by decide) (la_6 C hi h hn H locs ls hP hO hS hl)
    · exact lv_tableIn C.1.1 C.1.2.1 dL_law_33 (by omega) (by omega) (off := 446) (by rw [hxk]; rfl) (tgt := 479) (by decide) (la_7 C hi h hn H locs ls hP hO hS hl)
    · exact lv_tableIn C.1.1 C.1.2.1 dL_law_33 (by omega) (by omega) (off := 459) (by rw [hxk]; rfl) (tgt := 492) (by decide) (la_8 C hi h hn H locs ls hP hO hS hl)
    · exact lv_tableIn C.1.1 C.1.2.1 dL_law_33 (by omega) (by omega) (off := 472) (by rw [hxk]; rfl) (tgt := 505) (by decide) (la_9 C hi h hn H locs ls hP hO hS hl)
    · exact lv_tableIn C.1.1 C.1.2.1 dL_law_33 (by omega) (by omega) (off := 485) (by rw [hxk]; rfl) (tgt := 518) (by decide) (la_10 C hi h hn H locs ls hP hO hS hl)
    · exact lv_tableIn C.1.1 C.1.2.1 dL_law_33 (by omega) (by omega) (off := 518) (by rw [hxk]; rfl) (tgt := 551) (by decide) (la_11 C hi h hn H locs ls hP hO hS hl)
    · exact lv_tableIn C.1.1 C.1.2.1 dL_law_33 (by omega) (by omega) (off := 552) (by rw [hxk]; rfl) (tgt := 585) (by decide) (la_12 C hi h hn H locs ls hP hO hS hl)
    · exact lv_tableIn C.1.1 C.1.2.1 dL_law_33 (by omega) (by omega) (off := 585) (by rw [hxk]; rfl) (tgt := 618) (by decide) (la_13 C hi h hn H locs ls hP hO hS hl)
    · exact lv_tableIn C.1.1 C.1.2.1 dL_law_33 (by omega) (by omega) (off := 618) (by rw [hxk]; rfl) (tgt := 651) (by decide) (la_14 C hi h hn H locs ls hP hO hS hl)
    · exact lv_tableIn C.1.1 C.1.2.1 dL_law_33 (by omega) (by omega) (off := 661) (by rw [hxk]; rfl) (tgt := 694) (by decide) (la_15 C hi h hn H locs ls hP hO hS hl)
    · exact lv_tableIn C.1.1 C.1.2.1 dL_law_33 (by omega) (by omega) (off := 694) (by rw [hxk]; rfl) (tgt := 727) (by decide) (la_16 C hi h hn H locs ls hP hO hS hl)
    · exact lv_tableIn C.1.1 C.1.2.1 dL_law_33 (by omega) (by omega) (off := 757) (by rw [hxk]; rfl) (tgt := 790) (by decide) (la_17 C hi h hn H locs ls hP hO hS hl)
    · exact lv_tableIn C.1.1 C.1.2.1 dL_law_33 (by omega) (by omega) (off := 790) (by rw [hxk]; rfl) (tgt := 823) (by decide) (la_18 C hi h hn H locs ls hP hO hS hl)
    · exact lv_tableIn C.1.1 C.1.2.1 dL_law_33 (by omega) (by omega) (off := 823) (by rw [hxk]; rfl) (tgt := 856) (by decide) (la_19 C hi h hn H locs ls hP hO hS hl)
    · exact lv_tableIn C.1.1 C.1.2.1 dL_law_33 (by omega) (by omega) (off := 856) (by rw [hxk]; rfl) (tgt := 889) (by decide) (la_20 C hi h hn H locs ls hP hO hS hl)
    · exact lv_tableIn C.1.1 C.1.2.1 dL_law_33 (by omega) (by omega) (off := 869) (by rw [hxk]; rfl) (tgt := 902) (by decide) (la_21 C hi h hn H locs ls hP hO hS hl)
    · exact lv_tableIn C.1.1 C.1.2.1 dL_law_33 (by omega) (by omega) (off := 892) (by rw [hxk]; rfl) (tgt := 925) (by decide) (la_22 C hi h hn H locs ls hP hO hS hl)
    · exact lv_tableIn C.1.1 C.1.2.1 dL_law_33 (by omega) (by omega) (off := 925) (by rw [hxk]; rfl) (tgt := 958) (by decide) (la_23 C hi h hn H locs ls hP hO hS hl)
    · exact lv_tableIn C.1.1 C.1.2.1 dL_law_33 (by omega) (by omega) (off := 938) (by rw [hxk]; rfl) (tgt := 971) (by decide) (la_24 C hi h hn H locs ls hP hO hS hl)
    · exact lv_tableIn C.1.1 C.1.2.1 dL_law_33 (by omega) (by omega) (off := 951) (by rw [hxk]; rfl) (tgt := 984) (by decide) (la_25 C hi h hn H locs ls hP hO hS hl)
    · exact lv_tableIn C.1.1 C.1.2.1 dL_law_33 (by omega) (by omega) (off := 984) (by rw [hxk]; rfl) (tgt := 1017) (by decide) (la_26 C hi h hn H locs ls hP hO hS hl)
    · exact lv_tableIn C.1.1 C.1.2.1 dL_law_33 (by omega) (by omega) (off := 1037) (by rw [hxk]; rfl) (tgt := 1070) (by decide) (la_27 C hi h hn H locs ls hP hO hS hl)
    · exact lv_tableIn C.1.1 C.1.2.1 dL_law_33 (by omega) (by omega) (off := 1070) (by rw [hxk]; rfl) (tgt := 1103) (by decide) (la_28 C hi h hn H locs ls hP hO hS hl)
    · exact lv_tableIn C.1.1 C.1.2.1 dL_law_33 (by omega) (by omega) (off := 1103) (by rw [hxk]; rfl) (tgt := 1136) (by decide) (la_29 C hi h hn H locs ls hP hO hS hl)
    · exact lv_tableIn C.1.1 C.1.2.1 dL_law_33 (by omega) (by omega) (off := 1136) (by rw [hxk]; rfl) (tgt := 1169) (by decide) (la_30 C hi h hn H locs ls hP hO hS hl)
    · exact lv_tableIn C.1.1 C.1.2.1 dL_law_33 (by omega) (by omega) (off := 1169) (by rw [hxk]; rfl) (tgt := 1202) (by decide) (la_31 C hi h hn H locs ls hP hO hS hl)
    · exact lv_tableIn C.1.1 C.1.2.1 dL_law_33 (by omega) (by omega) (off := 1192) (by rw [hxk]; rfl) (tgt := 1225) (by decide) (la_32 C hi h hn H locs ls hP hO hS hl)
    · exact lv_tableIn C.1.1 C.1.2.1 dL_law_33 (by omega) (by omega) (off := 1235) (by rw [hxk]; rfl) (tgt := 1268) (by decide) (la_33 C hi h hn H locs ls hP hO hS hl)
    · exact lv_tableIn C.1.1 C.1.2.1 dL_law_33 (by omega) (by omega) (off := 1268) (by rw [hxk]; rfl) (tgt := 1301) (by decide) (la_34 C hi h hn H locs ls hP hO hS hl)
    · exact lv_tableIn C.1.1 C.1.2.1 dL_law_33 (by omega) (by omega) (off := 1291) (by rw [hxk]; rfl) (tgt := 1324) (by decide) (la_35 C hi h hn H locs ls hP hO hS hl)
    · exact lv_tableIn C.1.1 C.1.2.1 dL_law_33 (by omega) (by omega) (off := 1314) (by rw [hxk]; rfl) (tgt := 1347) (by decide) (la_36 C hi h hn H locs ls hP hO hS hl)
    · exact lv_tableIn C.1.1 C.1.2.1 dL_law_33 (by omega) (by omega) (off := 1327) (by rw [hxk]; rfl) (tgt := 1360) (by decide) (la_37 C hi h hn H locs ls hP hO hS hl)
    · exact lv_tableIn C.1.1 C.1.2.1 dL_law_33 (by omega) (by omega) (off := 1360) (by rw [hxk]; rfl) (tgt := 1393) (by decide) (la_38 C hi h hn H locs ls hP hO hS hl)
    · exact lv_tableIn C.1.1 C.1.2.1 dL_law_33 (by omega) (by omega) (off := 1383) (by rw [hxk]; rfl) (tgt := 1416) (by decide) (la_39 C hi h hn H locs ls hP hO hS hl)
theorem law_loop (C : lC G p s m meth c b L xs) : ∀ n i, i ≤ L → L + 1 ≤ i + n → ∀ μ ν, Rel μ ν → lW G p l e s m below meth c b 18 μ ν i [] := by
  intro n
  induction n with
  | zero =>
    intro i h1 h2
    omega
  | succ n ih =>
    intro i hiL hin μ ν h H locs ls hP hO hS hl
    refine lv_iload_n C.1.1 C.1.2.1 dL_law_18 rfl (lv_at hl 0 rfl) ?_
    refine lv_aload_n C.1.1 C.1.2.1 dL_law_19 rfl (lv_at hl 3 rfl) ?_
    refine va_slen C.1.1 C.1.2.1 C.1.2.2.2.2.2.2.1 C.1.2.2.2.2.2.2.2.1 (Nat.not_le.mpr C.1.2.2.2.2.2.2.2.1) hS dL_law_20 ?_
    refine lv_bipush (v := 6) C.1.1 C.1.2.1 dL_law_21 (by decide) ?_
    refine lv_isub C.1.1 C.1.2.1 dL_law_23 ?_
    refine lv_icmp_gt (tgt := 1436) C.1.1 C.1.2.1 dL_law_24 (by decide) (fun _ => ?_) (fun hng => ?_)
    · refine lv_iconst (v := 1) C.1.1 C.1.2.1 dL_law_1436 (by decide) ?_
      refine va_forget (fun q hq => hS.2.2 q hq) ?_
      refine W.widen (k := 600000) (n := 7302250) (by decide) (by decide) ?_
      exact lw_ret C.1.1 C.1.2.1 C.1.2.2.1 C.1.2.2.2.2.2.2.2.2.1 dL_law_1437
    · have hi : i + 6 ≤ L := l_len C.2.1 hiL hng
      have hstep : ∀ μ ν, Rel μ ν → lW G p l e s m below meth c b 1430 μ ν i [] := fun μ' ν' h' => l_step C dL_law_1430 dL_law_1433 (tgt := 18) (by decide) (ih (i + 6) hi (by omega) μ' ν' h')
      refine lv_aload_n C.1.1 C.1.2.1 dL_law_27 rfl (lv_at hl 3 rfl) ?_
      refine lv_iload_n C.1.1 C.1.2.1 dL_law_28 rfl (lv_at hl 0 rfl) ?_
      have h3 := C.2.1
      refine va_sld C.1.1 C.1.2.1 C.1.2.2.2.2.2.2.1 C.1.2.2.2.2.2.2.2.1 (Nat.not_le.mpr C.1.2.2.2.2.2.2.2.1) hS (vp_in_nI (by omega) (by omega)) dL_law_29 ?_
      refine lv_bipush (v := 63) C.1.1 C.1.2.1 dL_law_30 (by decide) ?_
      refine lv_iand C.1.1 C.1.2.1 dL_law_32 ?_
      exact l_switch C hi h hstep H locs ls hP hO hS hl
end LF
theorem l_arr {s : State} {ty : FieldType} {c comp : ClassId} {k : Class} (hty : ∀ C, ty ≠ .object C) (h1 : s.vm.findClass ("[" ++ ty.toString) = some c) (h2 : s.vm.classes[c]? = some k) (h3 : k.kind = .array comp ty) : ArrOfT s c ty ∧ va_RA s c ty := by
  refine ⟨fun n z => ⟨(fun k h => by cases h), k, h2, comp, h3⟩, ?_⟩
  cases ty with
  | object C => exact absurd rfl (hty C)
  | _ => exact h1
set_option maxHeartbeats 4000000 in
/-- THE LAW, from its entry -/
theorem whole_start {p : Program} {e : Env} {s : State} {m : MethodId} {below : List Frame} {meth : Method} {c : Code} (l : Launch) (_hflags : l.flags = flags0) {b L : Nat} {xs : Nat → Int32} (hL : L ≤ 3072) (C0 : lw_At p s m meth c b L xs) : W p l e room_1 s m #[Value.ref b] below meth c s.heap [] 0 0 (lw_Z below #[Value.ref b] s) (entryFrame m ([Value.ref b] : List Value).toArray 4) := by
  obtain ⟨hx, hb, hr, hml, hown, hts, hX, hbl, hlocks, hgv⟩ := id C0
  have hex : ∀ k : Nat, ∃ (cC : ClassId) (iS : Nat → Nat), ∀ q, vwCl[k]? = some q → u_Kn s q.1 q.2.1 q.2.2 cC iS := by
    intro k
    match k with
    | 0 => obtain ⟨c0, i0, h⟩ := u_known (C := RX0) (T := TX0) (N := 8) (n := 8) hts inX0 (hts _ (z_tw 112 (by decide +kernel))); exact ⟨c0, i0, fun q hq => by cases hq; exact h⟩
    | 1 => obtain ⟨c0, i0, h⟩ := u_known (C := RX1) (T := TX1) (N := 6) (n := 6) hts inX1 (hts _ (z_tw 27 (by decide +kernel))); exact ⟨c0, i0, fun q hq => by cases hq; exact h⟩
    | 2 => obtain ⟨c0, i0, h⟩ := u_known (C := RX2) (T := TX2) (N := 9) (n := 9) hts inX2 (hts _ (z_tw 153 (by decide +kernel))); exact ⟨c0, i0, fun q hq => by cases hq; exact h⟩
    | 3 => obtain ⟨c0, i0, h⟩ := u_known (C := RX3) (T := TX3) (N := 4) (n := 4) hts inX3 (hts _ (z_tw 373 (by decide +kernel))); exact ⟨c0, i0, fun q hq => by cases hq; exact h⟩
    | 4 => obtain ⟨c0, i0, h⟩ := u_known (C := RX4) (T := TX4) (N := 7) (n := 7) hts inX4 (hts _ (z_tw 270 (by decide +kernel))); exact ⟨c0, i0, fun q hq => by cases hq; exact h⟩
    | 5 => obtain ⟨c0, i0, h⟩ := u_known (C := RX5) (T := TX5) (N := 9) (n := 9) hts inX5 (hts _ (z_tw 336 (by decide +kernel))); exact ⟨c0, i0, fun q hq => by cases hq; exact h⟩
    | 6 => obtain ⟨c0, i0, h⟩ := u_known (C := RX6) (T := TX6) (N := 10) (n := 10) hts inX6 (hts _ (z_tw 65 (by decide +kernel))); exact ⟨c0, i0, fun q hq => by cases hq; exact h⟩
    | 7 => obtain ⟨c0, i0, h⟩ := u_known (C := RX7) (T := TX7) (N := 8) (n := 8) hts inX7 (hts _ (z_tw 239 (by decide +kernel))); exact ⟨c0, i0, fun q hq => by cases hq; exact h⟩
    | 8 => obtain ⟨c0, i0, h⟩ := u_known (C := RX8) (T := TX8) (N := 2) (n := 2) hts inX8 (hts _ (z_tw 396 (by decide +kernel))); exact ⟨c0, i0, fun q hq => by cases hq; exact h⟩
    | 9 => obtain ⟨c0, i0, h⟩ := u_known (C := RX9) (T := TX9) (N := 5) (n := 5) hts inX9 (hts _ (z_tw 305 (by decide +kernel))); exact ⟨c0, i0, fun q hq => by cases hq; exact h⟩
    | 10 => obtain ⟨c0, i0, h⟩ := u_known (C := RX10) (T := TX10) (N := 9) (n := 9) hts inX10 (hts _ (z_tw 190 (by decide +kernel))); exact ⟨c0, i0, fun q hq => by cases hq; exact h⟩
    | 11 => obtain ⟨c0, i0, h⟩ := u_known (C := RX11) (T := TX11) (N := 11) (n := 11) hts inX11 (hts _ (z_tw 19 (by decide +kernel))); exact ⟨c0, i0, fun q hq => by cases hq; exact h⟩
    | 12 => obtain ⟨c0, i0, h⟩ := u_known (C := RX12) (T := TX12) (N := 55) (n := 55) hts inX12 (hts _ (z_tw 1046 (by decide +kernel))); exact ⟨c0, i0, fun q hq => by cases hq; exact h⟩
    | k + 13 => exact ⟨(0 : Nat), fun _ => 0, fun q hq => by simp [vwCl] at hq⟩
  obtain ⟨D, hD⟩ : ∃ D : va_G, ∀ (k : Nat) (q : vw_C), vwCl[k]? = some q → u_Kn s q.1 q.2.1 q.2.2 (D.1 k) (D.2 k) :=
    ⟨(fun k => Classical.choose (hex k), fun k => Classical.choose (Classical.choose_spec (hex k))), fun k q hq => Classical.choose_spec (Classical.choose_spec (hex k)) q hq⟩
  obtain ⟨t0, k0, q0, a0, b0, d0⟩ := Cond.arrayClass_spec (hts (.arrayClass .int) (z_tw 63 (by decide +kernel)))
  obtain ⟨t1, k1, q1, a1, b1, d1⟩ := Cond.arrayClass_spec (hts (.arrayClass .long) (z_tw 151 (by decide +kernel)))
  obtain ⟨t2, k2, q2, a2, b2, d2⟩ := Cond.arrayClass_spec (hts (.arrayClass .byte) (z_tw 1217 (by decide +kernel)))
  obtain ⟨t3, k3, q3, a3, b3, d3⟩ := Cond.arrayClass_spec (hts (.arrayClass .boolean) (z_tw 1218 (by decide +kernel)))
  obtain ⟨q4, t4, k4, -, b4, d4, a4⟩ := Cond.arrayOver_specA (hts (.arrayOver (.array .int)) (z_tw 33 (by decide +kernel)))
  obtain ⟨ty, hty⟩ : ∃ ty : Nat → ClassId, ∀ (k : Nat) (q : ClassId × FieldType), (ztys (D, ty, 0, []))[k]? = some q → ArrOfT s q.1 q.2 ∧ va_RA s q.1 q.2 := by
    refine ⟨fun t => match t with | 0 => t0 | 1 => t1 | 2 => t2 | 3 => t3 | _ => t4, fun k q hq => ?_⟩
    match k, hq with
    | 0, hq => cases hq; exact l_arr (fun C h => by cases h) a0 b0 d0
    | 1, hq => cases hq; exact l_arr (fun C h => by cases h) a1 b1 d1
    | 2, hq => cases hq; exact l_arr (fun C h => by cases h) a2 b2 d2
    | 3, hq => cases hq; exact l_arr (fun C h => by cases h) a3 b3 d3
    | 4, hq => cases hq; exact l_arr (fun C h => by cases h) a4 b4 d4
    | k + 5, hq => simp [ztys] at hq
  have hK : zK (D, ty, 0, []) s := ⟨hD, hty⟩
  have hNw : zNw s := by
    intro w hw hn
    have h1 := hts w hw
    cases w <;> first | exact va_Nw.of rfl h1 | cases hn
  have hOv : zOv s := zOv.of (hts (.arrayOver (.array .int)) (z_tw 33 (by decide +kernel)))
  have C : lC (D, ty) p s m meth c b L xs := ⟨C0, hL, hK, hNw⟩
  have hts' : ∀ w ∈ gdT, w.before #[Value.ref b] s = true := fun w hw => hts w (List.mem_filter.mp hw).1
  have hl := lv_entry ([.ref b] : List Value) (n := 4) (Nat.le_of_ble_eq_true rfl)
  rw [lg_entry_eq]
  generalize (lg_sl ([.ref b] : List Value) ++ List.replicate (4 - (lg_sl ([.ref b] : List Value)).length) Slot.unset).toArray = ls at hl ⊢
  have hl : lv_has ls 4 [(0, .ref b)] := hl
  refine z_newcall (G0 := (D, ty, 0)) (d := 0 + 1 + 1 + 1) (T := TX11) (A := lA s) hx hb hml hown hts' hK hNw hOv (in_X11 l D ty s.heap.size 0) cn_L1 rfl (z_lay inX11) tyX11 tyX11_ok df_X11 rfl (by decide) (by decide) (by decide) (by decide) dL_law_0 dL_law_3 dL_law_4 (Nat.le_of_ble_eq_true rfl) rfl rfl va_S.rf (fun q h1 _ => h1) hl.1 (fun μ H locs hI hz hold hP hS => ?_)
  refine lv_astore_n (lv' := [(1, .ref s.heap.size), (0, .ref b)]) hx hb dL_law_7 rfl hl (by decide) rfl (fun ls hl => ?_)
  have hz' : H.size = s.heap.size + 171 := hz
  refine z_newcall (G0 := (D, ty, 0)) (d := 0 + 1 + 1) (T := TX12) (A := lA s) hx hb hml hown hts' hK hNw hOv (in_X12 l D ty (s.heap.size + 171) 0 tp_X12) cn_L2 rfl (z_lay inX12) tyX12 tyX12_ok df_X12 rfl (by decide) (by decide) (by decide) (by decide) dL_law_8 dL_law_11 dL_law_12 (Nat.le_of_ble_eq_true rfl) hz' rfl hS (fun q h1 _ => Nat.le_trans (Nat.le_add_right _ _) h1) hl.1 (fun ν H2 locs2 hJ hz2 hold2 hO hS2 => ?_)
  refine lv_astore_n (lv' := [(2, .ref (s.heap.size + 171)), (1, .ref s.heap.size), (0, .ref b)]) hx hb dL_law_15 rfl hl (by decide) rfl (fun ls hl => ?_)
  refine lv_iconst (v := nI 0) hx hb dL_law_16 (by decide) ?_
  refine lv_istore_n (lv' := [(3, .int (nI 0)), (2, .ref (s.heap.size + 171)), (1, .ref s.heap.size), (0, .ref b)]) hx hb dL_law_17 rfl hl (by decide) rfl (fun ls hl => ?_)
  have hP2 : va_P D vwCl (zw (D, ty, s.heap.size, Zx) μ) H2 := hP.kept (fun j q hq => hold2 q.1 (by have := (hP j q hq).lt; omega))
  exact law_loop C (L + 1) 0 (Nat.zero_le _) (by omega) μ ν (rel_0 hI hJ) H2 locs2 ls hP2 hO hS2 hl
