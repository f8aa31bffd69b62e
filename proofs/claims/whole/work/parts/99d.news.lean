/-! LAYER C: the constructors that make rows only, by program (genC.py) -/
theorem z5_of {Z : List ZD} (h : Z.all (fun d => match d with | .inl _ => true | .inr x => decide (x.1 < 5)) = true) : zt5 Z := by
  intro b t n r hz
  unfold zoa at hz
  cases hd : Z[b]? with
  | none => rw [hd] at hz; cases hz
  | some y =>
    rw [hd] at hz
    have hm := List.all_eq_true.mp h y (List.mem_of_getElem? hd)
    cases y with
    | inl y => cases hz
    | inr y => obtain ⟨t', n', r'⟩ := y; cases hz; exact of_decide_eq_true hm
theorem g_ra {G0 : va_G × (Nat → ClassId) × Nat} {own : String} {cc : ByteArray} {nL t : Nat} {p : Program} {s : State} {m : MethodId} {args : Array Value} {meth : Method} {c : Code} (C : gCtx G0 own cc nL p s m args meth c) {ty : FieldType} (h : (ztys (G0.1, G0.2.1, G0.2.2, []))[t]? = some (G0.2.1 t, ty)) (cA : ClassId) (hf : s.vm.findClass ("[" ++ ty.toString) = some cA) : cA = G0.2.1 t := by
  have h1 : va_RA s (G0.2.1 t) ty := (C.2.2.2.2.2.1.2 t _ h).2
  have hty : ∀ C, ty ≠ .object C := fun C hC => by
    rw [hC] at h
    unfold ztys at h
    rcases t with _ | _ | _ | _ | _ | t <;> simp at h
  have h2 : s.vm.findClass ("[" ++ ty.toString) = some (G0.2.1 t) := by
    cases ty with
    | object C => exact absurd rfl (hty C)
    | _ => exact h1
  exact Option.some.inj (hf.symm.trans h2)
def zmi {α β : Type} (f : Nat → α → β) : Nat → List α → List β
  | _, [] => []
  | n, a :: l => f n a :: zmi f (n + 1) l
theorem zmi_at {α β : Type} (f : Nat → α → β) : ∀ (l : List α) (n i : Nat), (zmi f n l)[i]? = (l[i]?).map (f (n + i))
  | [], _, _ => rfl
  | a :: l, n, 0 => rfl
  | a :: l, n, i + 1 => by
    show (zmi f (n + 1) l)[i]? = (l[i]?).map _
    rw [zmi_at f l (n + 1) i, show n + 1 + i = n + (i + 1) by omega]
theorem zmi_eq {α β : Type} (f : Nat → α → β) (l : List α) : l.mapIdx f = zmi f 0 l := by
  apply List.ext_getElem?
  intro i
  rw [List.getElem?_mapIdx, zmi_at, Nat.zero_add]
theorem zgw_zw {D : va_G} {ty : Nat → ClassId} {b ci : Nat} {fs : List Value} {fr : List (Option (Option Nat))} {Z : List ZD} {n : Nat} {μ : ZM} (h : fs = zmi (zfv b μ 0) 0 fr) (hn : Z.tail.length ≤ n := by decide) (hZ : Z = .inl (ci, fr) :: Z.tail := by rfl) : zgw (D, ty, b) ci fs (Z.tail.take n) μ = zw (D, ty, b, Z) μ := by
  rw [← zmi_eq] at h
  rw [List.take_of_length_le hn]
  conv => rhs; rw [zw, hZ]
  rw [List.mapIdx_cons]
  show (b, Sum.inr (ci, fs)) :: _ = (b + 0, Sum.inr (ci, _)) :: _
  rw [← h]
  congr 1
  apply List.ext_getElem?
  intro i
  rw [List.getElem?_mapIdx, List.getElem?_mapIdx]
  cases Z.tail[i]? with
  | none => rfl
  | some d =>
    show some (b + (1 + i), zcell (D, ty, b, []) μ (1 + i) d) = some (b + (i + 1), zcell (D, ty, b, Z) μ (i + 1) d)
    rw [Nat.add_comm 1 i]
    cases d <;> rfl

theorem cs_X1_32 : zCS RX1 32 (yJ7_fill_53178, cJ7_fill_53178, 4, none) 2 := ⟨⟨(z_tw 36 (by decide +kernel)), (z_tw 3 (by decide +kernel)), ⟨by decide, by decide⟩, by decide +kernel, by decide, (.inl (z_tw 34 (by decide +kernel)))⟩, (z_tw 35 (by decide +kernel))⟩
theorem cs_X9_29 : zCS RX9 29 (yJ7_fill_53178, cJ7_fill_53178, 4, none) 2 := ⟨⟨(z_tw 36 (by decide +kernel)), (z_tw 3 (by decide +kernel)), ⟨by decide, by decide⟩, by decide +kernel, by decide, (.inl (z_tw 311 (by decide +kernel)))⟩, (z_tw 35 (by decide +kernel))⟩
theorem cs_X4_26 : zCS RX4 26 (yJ7_fill_53178, cJ7_fill_53178, 4, none) 2 := ⟨⟨(z_tw 36 (by decide +kernel)), (z_tw 3 (by decide +kernel)), ⟨by decide, by decide⟩, by decide +kernel, by decide, (.inl (z_tw 276 (by decide +kernel)))⟩, (z_tw 35 (by decide +kernel))⟩
def ZX0 : List ZD := [.inl (0, [none, some (some 1), some (some 2), some (some 3), some (some 4), some (some 11), some (some 18), some (some 19)]),
  .inr (0, 6, 0),
  .inr (0, 6, 0),
  .inr (0, 6, 0),
  .inr (4, 6, 5),
  .inr (0, 6, 0),
  .inr (0, 6, 0),
  .inr (0, 6, 0),
  .inr (0, 6, 0),
  .inr (0, 6, 0),
  .inr (0, 6, 0),
  .inr (4, 6, 12),
  .inr (0, 6, 0),
  .inr (0, 6, 0),
  .inr (0, 6, 0),
  .inr (0, 6, 0),
  .inr (0, 6, 0),
  .inr (0, 6, 0),
  .inr (1, 49, 0),
  .inr (1, 49, 0)]
theorem ZX0_5 : zt5 ZX0 := z5_of (by decide +kernel)
theorem dX0_init_0 : decode cX0_init 0 = .ok (.aload_n 0, 1) := by decide +kernel
theorem dX0_init_1 : decode cX0_init 1 = .ok (.invokespecial 3, 3) := by decide +kernel
theorem dX0_init_4 : decode cX0_init 4 = .ok (.aload_n 0, 1) := by decide +kernel
theorem dX0_init_5 : decode cX0_init 5 = .ok (.bipush 6, 2) := by decide +kernel
theorem dX0_init_7 : decode cX0_init 7 = .ok (.newarray .int, 2) := by decide +kernel
theorem dX0_init_9 : decode cX0_init 9 = .ok (.putfield 9, 3) := by decide +kernel
theorem dX0_init_12 : decode cX0_init 12 = .ok (.aload_n 0, 1) := by decide +kernel
theorem dX0_init_13 : decode cX0_init 13 = .ok (.bipush 6, 2) := by decide +kernel
theorem dX0_init_15 : decode cX0_init 15 = .ok (.newarray .int, 2) := by decide +kernel
theorem dX0_init_17 : decode cX0_init 17 = .ok (.putfield 15, 3) := by decide +kernel
theorem dX0_init_20 : decode cX0_init 20 = .ok (.aload_n 0, 1) := by decide +kernel
theorem dX0_init_21 : decode cX0_init 21 = .ok (.bipush 6, 2) := by decide +kernel
theorem dX0_init_23 : decode cX0_init 23 = .ok (.newarray .int, 2) := by decide +kernel
theorem dX0_init_25 : decode cX0_init 25 = .ok (.putfield 18, 3) := by decide +kernel
theorem dX0_init_28 : decode cX0_init 28 = .ok (.aload_n 0, 1) := by decide +kernel
theorem dX0_init_29 : decode cX0_init 29 = .ok (.bipush 6, 2) := by decide +kernel
theorem dX0_init_31 : decode cX0_init 31 = .ok (.bipush 6, 2) := by decide +kernel
theorem dX0_init_33 : decode cX0_init 33 = .ok (.multianewarray 21 2, 4) := by decide +kernel
theorem dX0_init_37 : decode cX0_init 37 = .ok (.putfield 23, 3) := by decide +kernel
theorem dX0_init_40 : decode cX0_init 40 = .ok (.aload_n 0, 1) := by decide +kernel
theorem dX0_init_41 : decode cX0_init 41 = .ok (.bipush 6, 2) := by decide +kernel
theorem dX0_init_43 : decode cX0_init 43 = .ok (.bipush 6, 2) := by decide +kernel
theorem dX0_init_45 : decode cX0_init 45 = .ok (.multianewarray 21 2, 4) := by decide +kernel
theorem dX0_init_49 : decode cX0_init 49 = .ok (.putfield 26, 3) := by decide +kernel
theorem dX0_init_52 : decode cX0_init 52 = .ok (.aload_n 0, 1) := by decide +kernel
theorem dX0_init_53 : decode cX0_init 53 = .ok (.bipush 49, 2) := by decide +kernel
theorem dX0_init_55 : decode cX0_init 55 = .ok (.newarray .long, 2) := by decide +kernel
theorem dX0_init_57 : decode cX0_init 57 = .ok (.putfield 29, 3) := by decide +kernel
theorem dX0_init_60 : decode cX0_init 60 = .ok (.aload_n 0, 1) := by decide +kernel
theorem dX0_init_61 : decode cX0_init 61 = .ok (.bipush 49, 2) := by decide +kernel
theorem dX0_init_63 : decode cX0_init 63 = .ok (.newarray .long, 2) := by decide +kernel
theorem dX0_init_65 : decode cX0_init 65 = .ok (.putfield 33, 3) := by decide +kernel
theorem dX0_init_68 : decode cX0_init 68 = .ok (.return_, 1) := by decide +kernel
def tl_X0 (Z : List ZD) (K : ZKt) : ZSt := sRetV
theorem ct_X0 (G : ZG) (d : Nat) (K : ZKt) (hT : zt5 G.2.2.2) : CS G RX0 cX0_init 1 d K none [] (fun _ => []) 68 (tl_X0 G.2.2.2 K) := by
  unfold tl_X0
  exact CS.retV dX0_init_68
theorem zw_X0 (D : va_G) (ty : Nat → ClassId) (h : Nat) : zgw (D, ty, h) 0 [.int 0, .ref (h + 1), .ref (h + 2), .ref (h + 3), .ref (h + 4), .ref (h + 11), .ref (h + 18), .ref (h + 19)] (ZX0.tail.take 19) zM0 = zw (D, ty, h, ZX0) zM0 := zgw_zw (fr := [none, some (some 1), some (some 2), some (some 3), some (some 4), some (some 11), some (some 18), some (some 19)]) (by rfl)
set_option maxRecDepth 20000 in
theorem in_X0 (l : Launch) (D : va_G) (ty : Nat → ClassId) (h dd : Nat) {P : ZM → Prop} (hP : tl_X0 ZX0 (KK ZX0 (fun _ _ _ => .null) (dd + 1)) ([.ref 0], zM0) (fun _ => False) (zNP P) (fun _ _ => False)) : ZN l (D, ty, h, ZX0) (dd + 1 + 1) 0 [.int 0, .null, .null, .null, .null, .null, .null, .null] (yX0_init, cX0_init, 1, none) 19 200 P := by
  refine ZN.of (by decide +kernel) rfl rfl (by decide) ?_
  intro p e s m args below meth c C hO hsz
  refine g_aload0 C dX0_init_0 ?_
  refine g_obj C (z_tw 116 (by decide +kernel)) (z_tw 24 (by decide +kernel)) (z_tw 25 (by decide +kernel)) ⟨by show 1 ≤ dd + 1 + 1; omega, by show 12 ≤ 40 * (dd + 1 + 1); omega⟩ dX0_init_1 ?_
  refine g_aload0 C dX0_init_4 ?_
  refine g_bipush (v := 6) C (by decide) dX0_init_5 ?_
  refine g_newa (t := 0) (k := 6) (ty := .int) C rfl rfl (g_ra C (t := 0) rfl) (z_tw 63 (by decide +kernel)) (fun _ => rfl) (by decide) (by decide) (by decide) (Nat.le_of_ble_eq_true rfl) (Nat.le_of_ble_eq_true rfl) dX0_init_7 ?_
  show gW (D, ty, h) 20 1 0 p l e _ s m args below meth c _ 1 6 9 [.int 0, .null, .null, .null, .null, .null, .null, .null] (ZX0.tail.take 1) zM0 [.ref (h + 1), .ref h]
  refine g_put (k := 1) (T := TX0) (N := 8) (ty := (.array .int)) C zC0 (by decide) (by decide +kernel) (z_tw 122 (by decide +kernel)) rfl rfl rfl rfl (by show 1 < 8; decide) (Nat.le_of_ble_eq_true rfl) dX0_init_9 ?_
  show gW (D, ty, h) 20 1 0 p l e _ s m args below meth c _ 1 6 12 [.int 0, .ref (h + 1), .null, .null, .null, .null, .null, .null] (ZX0.tail.take 1) zM0 []
  refine g_aload0 C dX0_init_12 ?_
  refine g_bipush (v := 6) C (by decide) dX0_init_13 ?_
  refine g_newa (t := 0) (k := 6) (ty := .int) C rfl rfl (g_ra C (t := 0) rfl) (z_tw 63 (by decide +kernel)) (fun _ => rfl) (by decide) (by decide) (by decide) (Nat.le_of_ble_eq_true rfl) (Nat.le_of_ble_eq_true rfl) dX0_init_15 ?_
  show gW (D, ty, h) 20 1 0 p l e _ s m args below meth c _ 2 12 17 [.int 0, .ref (h + 1), .null, .null, .null, .null, .null, .null] (ZX0.tail.take 2) zM0 [.ref (h + 2), .ref h]
  refine g_put (k := 2) (T := TX0) (N := 8) (ty := (.array .int)) C zC0 (by decide) (by decide +kernel) (z_tw 124 (by decide +kernel)) rfl rfl rfl rfl (by show 2 < 8; decide) (Nat.le_of_ble_eq_true rfl) dX0_init_17 ?_
  show gW (D, ty, h) 20 1 0 p l e _ s m args below meth c _ 2 12 20 [.int 0, .ref (h + 1), .ref (h + 2), .null, .null, .null, .null, .null] (ZX0.tail.take 2) zM0 []
  refine g_aload0 C dX0_init_20 ?_
  refine g_bipush (v := 6) C (by decide) dX0_init_21 ?_
  refine g_newa (t := 0) (k := 6) (ty := .int) C rfl rfl (g_ra C (t := 0) rfl) (z_tw 63 (by decide +kernel)) (fun _ => rfl) (by decide) (by decide) (by decide) (Nat.le_of_ble_eq_true rfl) (Nat.le_of_ble_eq_true rfl) dX0_init_23 ?_
  show gW (D, ty, h) 20 1 0 p l e _ s m args below meth c _ 3 18 25 [.int 0, .ref (h + 1), .ref (h + 2), .null, .null, .null, .null, .null] (ZX0.tail.take 3) zM0 [.ref (h + 3), .ref h]
  refine g_put (k := 3) (T := TX0) (N := 8) (ty := (.array .int)) C zC0 (by decide) (by decide +kernel) (z_tw 126 (by decide +kernel)) rfl rfl rfl rfl (by show 3 < 8; decide) (Nat.le_of_ble_eq_true rfl) dX0_init_25 ?_
  show gW (D, ty, h) 20 1 0 p l e _ s m args below meth c _ 3 18 28 [.int 0, .ref (h + 1), .ref (h + 2), .ref (h + 3), .null, .null, .null, .null] (ZX0.tail.take 3) zM0 []
  refine g_aload0 C dX0_init_28 ?_
  refine g_bipush (v := 6) C (by decide) dX0_init_29 ?_
  refine g_bipush (v := 6) C (by decide) dX0_init_31 ?_
  refine g_mna (N := 6) (K := 6) C (z_tw 117 (by decide +kernel)) (zOv.args hO _) (z_tw 63 (by decide +kernel)) (g_ra C (t := 0) rfl) (g_ra C (t := 4) rfl) (by decide) (by decide) (by decide) (by decide) (by decide) (fun _ _ => rfl) (Nat.le_of_ble_eq_true rfl) (Nat.le_of_ble_eq_true rfl) dX0_init_33 ?_
  show gW (D, ty, h) 20 1 0 p l e _ s m args below meth c _ 10 60 37 [.int 0, .ref (h + 1), .ref (h + 2), .ref (h + 3), .null, .null, .null, .null] (ZX0.tail.take 10) zM0 [.ref (h + 4), .ref h]
  refine g_put (k := 4) (T := TX0) (N := 8) (ty := (.array (.array .int))) C zC0 (by decide) (by decide +kernel) (z_tw 128 (by decide +kernel)) rfl rfl rfl rfl (by show 4 < 8; decide) (Nat.le_of_ble_eq_true rfl) dX0_init_37 ?_
  show gW (D, ty, h) 20 1 0 p l e _ s m args below meth c _ 10 60 40 [.int 0, .ref (h + 1), .ref (h + 2), .ref (h + 3), .ref (h + 4), .null, .null, .null] (ZX0.tail.take 10) zM0 []
  refine g_aload0 C dX0_init_40 ?_
  refine g_bipush (v := 6) C (by decide) dX0_init_41 ?_
  refine g_bipush (v := 6) C (by decide) dX0_init_43 ?_
  refine g_mna (N := 6) (K := 6) C (z_tw 117 (by decide +kernel)) (zOv.args hO _) (z_tw 63 (by decide +kernel)) (g_ra C (t := 0) rfl) (g_ra C (t := 4) rfl) (by decide) (by decide) (by decide) (by decide) (by decide) (fun _ _ => rfl) (Nat.le_of_ble_eq_true rfl) (Nat.le_of_ble_eq_true rfl) dX0_init_45 ?_
  show gW (D, ty, h) 20 1 0 p l e _ s m args below meth c _ 17 102 49 [.int 0, .ref (h + 1), .ref (h + 2), .ref (h + 3), .ref (h + 4), .null, .null, .null] (ZX0.tail.take 17) zM0 [.ref (h + 11), .ref h]
  refine g_put (k := 5) (T := TX0) (N := 8) (ty := (.array (.array .int))) C zC0 (by decide) (by decide +kernel) (z_tw 130 (by decide +kernel)) rfl rfl rfl rfl (by show 5 < 8; decide) (Nat.le_of_ble_eq_true rfl) dX0_init_49 ?_
  show gW (D, ty, h) 20 1 0 p l e _ s m args below meth c _ 17 102 52 [.int 0, .ref (h + 1), .ref (h + 2), .ref (h + 3), .ref (h + 4), .ref (h + 11), .null, .null] (ZX0.tail.take 17) zM0 []
  refine g_aload0 C dX0_init_52 ?_
  refine g_bipush (v := 49) C (by decide) dX0_init_53 ?_
  refine g_newa (t := 1) (k := 49) (ty := .long) C rfl rfl (g_ra C (t := 1) rfl) (z_tw 151 (by decide +kernel)) (fun _ => rfl) (by decide) (by decide) (by decide) (Nat.le_of_ble_eq_true rfl) (Nat.le_of_ble_eq_true rfl) dX0_init_55 ?_
  show gW (D, ty, h) 20 1 0 p l e _ s m args below meth c _ 18 151 57 [.int 0, .ref (h + 1), .ref (h + 2), .ref (h + 3), .ref (h + 4), .ref (h + 11), .null, .null] (ZX0.tail.take 18) zM0 [.ref (h + 18), .ref h]
  refine g_put (k := 6) (T := TX0) (N := 8) (ty := (.array .long)) C zC0 (by decide) (by decide +kernel) (z_tw 132 (by decide +kernel)) rfl rfl rfl rfl (by show 6 < 8; decide) (Nat.le_of_ble_eq_true rfl) dX0_init_57 ?_
  show gW (D, ty, h) 20 1 0 p l e _ s m args below meth c _ 18 151 60 [.int 0, .ref (h + 1), .ref (h + 2), .ref (h + 3), .ref (h + 4), .ref (h + 11), .ref (h + 18), .null] (ZX0.tail.take 18) zM0 []
  refine g_aload0 C dX0_init_60 ?_
  refine g_bipush (v := 49) C (by decide) dX0_init_61 ?_
  refine g_newa (t := 1) (k := 49) (ty := .long) C rfl rfl (g_ra C (t := 1) rfl) (z_tw 151 (by decide +kernel)) (fun _ => rfl) (by decide) (by decide) (by decide) (Nat.le_of_ble_eq_true rfl) (Nat.le_of_ble_eq_true rfl) dX0_init_63 ?_
  show gW (D, ty, h) 20 1 0 p l e _ s m args below meth c _ 19 200 65 [.int 0, .ref (h + 1), .ref (h + 2), .ref (h + 3), .ref (h + 4), .ref (h + 11), .ref (h + 18), .null] (ZX0.tail.take 19) zM0 [.ref (h + 19), .ref h]
  refine g_put (k := 7) (T := TX0) (N := 8) (ty := (.array .long)) C zC0 (by decide) (by decide +kernel) (z_tw 133 (by decide +kernel)) rfl rfl rfl rfl (by show 7 < 8; decide) (Nat.le_of_ble_eq_true rfl) dX0_init_65 ?_
  show gW (D, ty, h) 20 1 0 p l e _ s m args below meth c _ 19 200 68 [.int 0, .ref (h + 1), .ref (h + 2), .ref (h + 3), .ref (h + 4), .ref (h + 11), .ref (h + 18), .ref (h + 19)] (ZX0.tail.take 19) zM0 []
  refine g_tail (d := dd + 1) (n := 20) C (KK_met l (D, ty, h, ZX0) (fun _ _ _ => .null) ZX0_5 (dd + 1)) rfl rfl (zw_X0 D ty h) (ct_X0 (D, ty, h, ZX0) (dd + 1) _ ZX0_5) hP
def ZX1 : List ZD := [.inl (1, [some (some 1), some (some 2), some (some 3), some (some 4), some (some 13), some (some 14)]),
  .inr (0, 8, 0),
  .inr (0, 8, 0),
  .inr (0, 8, 0),
  .inr (4, 8, 5),
  .inr (0, 9, 0),
  .inr (0, 9, 0),
  .inr (0, 9, 0),
  .inr (0, 9, 0),
  .inr (0, 9, 0),
  .inr (0, 9, 0),
  .inr (0, 9, 0),
  .inr (0, 9, 0),
  .inr (0, 4, 0),
  .inr (0, 4, 0)]
theorem ZX1_5 : zt5 ZX1 := z5_of (by decide +kernel)
theorem dX1_init_0 : decode cX1_init 0 = .ok (.aload_n 0, 1) := by decide +kernel
theorem dX1_init_1 : decode cX1_init 1 = .ok (.invokespecial 3, 3) := by decide +kernel
theorem dX1_init_4 : decode cX1_init 4 = .ok (.aload_n 0, 1) := by decide +kernel
theorem dX1_init_5 : decode cX1_init 5 = .ok (.bipush 8, 2) := by decide +kernel
theorem dX1_init_7 : decode cX1_init 7 = .ok (.newarray .int, 2) := by decide +kernel
theorem dX1_init_9 : decode cX1_init 9 = .ok (.putfield 9, 3) := by decide +kernel
theorem dX1_init_12 : decode cX1_init 12 = .ok (.aload_n 0, 1) := by decide +kernel
theorem dX1_init_13 : decode cX1_init 13 = .ok (.bipush 8, 2) := by decide +kernel
theorem dX1_init_15 : decode cX1_init 15 = .ok (.newarray .int, 2) := by decide +kernel
theorem dX1_init_17 : decode cX1_init 17 = .ok (.putfield 15, 3) := by decide +kernel
theorem dX1_init_20 : decode cX1_init 20 = .ok (.aload_n 0, 1) := by decide +kernel
theorem dX1_init_21 : decode cX1_init 21 = .ok (.bipush 8, 2) := by decide +kernel
theorem dX1_init_23 : decode cX1_init 23 = .ok (.newarray .int, 2) := by decide +kernel
theorem dX1_init_25 : decode cX1_init 25 = .ok (.putfield 18, 3) := by decide +kernel
theorem dX1_init_28 : decode cX1_init 28 = .ok (.aload_n 0, 1) := by decide +kernel
theorem dX1_init_29 : decode cX1_init 29 = .ok (.bipush 8, 2) := by decide +kernel
theorem dX1_init_31 : decode cX1_init 31 = .ok (.bipush 9, 2) := by decide +kernel
theorem dX1_init_33 : decode cX1_init 33 = .ok (.multianewarray 21 2, 4) := by decide +kernel
theorem dX1_init_37 : decode cX1_init 37 = .ok (.putfield 23, 3) := by decide +kernel
theorem dX1_init_40 : decode cX1_init 40 = .ok (.aload_n 0, 1) := by decide +kernel
theorem dX1_init_41 : decode cX1_init 41 = .ok (.iconst 4, 1) := by decide +kernel
theorem dX1_init_42 : decode cX1_init 42 = .ok (.newarray .int, 2) := by decide +kernel
theorem dX1_init_44 : decode cX1_init 44 = .ok (.dup, 1) := by decide +kernel
theorem dX1_init_45 : decode cX1_init 45 = .ok (.iconst 0, 1) := by decide +kernel
theorem dX1_init_46 : decode cX1_init 46 = .ok (.bipush 8, 2) := by decide +kernel
theorem dX1_init_48 : decode cX1_init 48 = .ok (.iastore, 1) := by decide +kernel
theorem dX1_init_49 : decode cX1_init 49 = .ok (.dup, 1) := by decide +kernel
theorem dX1_init_50 : decode cX1_init 50 = .ok (.iconst 1, 1) := by decide +kernel
theorem dX1_init_51 : decode cX1_init 51 = .ok (.iconst 4, 1) := by decide +kernel
theorem dX1_init_52 : decode cX1_init 52 = .ok (.iastore, 1) := by decide +kernel
theorem dX1_init_53 : decode cX1_init 53 = .ok (.dup, 1) := by decide +kernel
theorem dX1_init_54 : decode cX1_init 54 = .ok (.iconst 2, 1) := by decide +kernel
theorem dX1_init_55 : decode cX1_init 55 = .ok (.iconst 2, 1) := by decide +kernel
theorem dX1_init_56 : decode cX1_init 56 = .ok (.iastore, 1) := by decide +kernel
theorem dX1_init_57 : decode cX1_init 57 = .ok (.dup, 1) := by decide +kernel
theorem dX1_init_58 : decode cX1_init 58 = .ok (.iconst 3, 1) := by decide +kernel
theorem dX1_init_59 : decode cX1_init 59 = .ok (.iconst 1, 1) := by decide +kernel
theorem dX1_init_60 : decode cX1_init 60 = .ok (.iastore, 1) := by decide +kernel
theorem dX1_init_61 : decode cX1_init 61 = .ok (.putfield 26, 3) := by decide +kernel
theorem dX1_init_64 : decode cX1_init 64 = .ok (.aload_n 0, 1) := by decide +kernel
theorem dX1_init_65 : decode cX1_init 65 = .ok (.iconst 4, 1) := by decide +kernel
theorem dX1_init_66 : decode cX1_init 66 = .ok (.newarray .int, 2) := by decide +kernel
theorem dX1_init_68 : decode cX1_init 68 = .ok (.dup, 1) := by decide +kernel
theorem dX1_init_69 : decode cX1_init 69 = .ok (.iconst 0, 1) := by decide +kernel
theorem dX1_init_70 : decode cX1_init 70 = .ok (.iconst 1, 1) := by decide +kernel
theorem dX1_init_71 : decode cX1_init 71 = .ok (.iastore, 1) := by decide +kernel
theorem dX1_init_72 : decode cX1_init 72 = .ok (.dup, 1) := by decide +kernel
theorem dX1_init_73 : decode cX1_init 73 = .ok (.iconst 1, 1) := by decide +kernel
theorem dX1_init_74 : decode cX1_init 74 = .ok (.iconst 2, 1) := by decide +kernel
theorem dX1_init_75 : decode cX1_init 75 = .ok (.iastore, 1) := by decide +kernel
theorem dX1_init_76 : decode cX1_init 76 = .ok (.dup, 1) := by decide +kernel
theorem dX1_init_77 : decode cX1_init 77 = .ok (.iconst 2, 1) := by decide +kernel
theorem dX1_init_78 : decode cX1_init 78 = .ok (.iconst 4, 1) := by decide +kernel
theorem dX1_init_79 : decode cX1_init 79 = .ok (.iastore, 1) := by decide +kernel
theorem dX1_init_80 : decode cX1_init 80 = .ok (.dup, 1) := by decide +kernel
theorem dX1_init_81 : decode cX1_init 81 = .ok (.iconst 3, 1) := by decide +kernel
theorem dX1_init_82 : decode cX1_init 82 = .ok (.bipush 8, 2) := by decide +kernel
theorem dX1_init_84 : decode cX1_init 84 = .ok (.iastore, 1) := by decide +kernel
theorem dX1_init_85 : decode cX1_init 85 = .ok (.putfield 29, 3) := by decide +kernel
theorem dX1_init_88 : decode cX1_init 88 = .ok (.aload_n 0, 1) := by decide +kernel
theorem dX1_init_89 : decode cX1_init 89 = .ok (.getfield 15, 3) := by decide +kernel
theorem dX1_init_92 : decode cX1_init 92 = .ok (.bipush 100, 2) := by decide +kernel
theorem dX1_init_94 : decode cX1_init 94 = .ok (.invokestatic 32, 3) := by decide +kernel
theorem dX1_init_97 : decode cX1_init 97 = .ok (.return_, 1) := by decide +kernel
def tl_X1 (Z : List ZD) (K : ZKt) : ZSt := (sSeq (sCS K 219 (aR (eFR Z 1 1 (eR 0)) (aI (eK (100 : Int32)) aN))) sRetV)
theorem ct_X1 (G : ZG) (d : Nat) (K : ZKt) (hT : zt5 G.2.2.2) : CS G RX1 cX1_init 1 d K none [] (fun _ => []) 88 (tl_X1 G.2.2.2 K) := by
  unfold tl_X1
  exact (CS.seq 97 (CS.callS (CA.ref (CE.getR (CE.aload_n rfl dX1_init_88 zhd) fs_X1_15 dX1_init_89 zhd) (CA.int (CE.bipush kB_100 dX1_init_92 zhd) CA.nil)) zi_219 cs_X1_32 (fun _ => rfl) dX1_init_94 zhd) (CS.retV dX1_init_97))
theorem zw_X1 (D : va_G) (ty : Nat → ClassId) (h : Nat) : zgw (D, ty, h) 1 [.ref (h + 1), .ref (h + 2), .ref (h + 3), .ref (h + 4), .ref (h + 13), .ref (h + 14)] (ZX1.tail.take 14) (zset (zset (zset (zset (zset (zset (zset (zset zM0 13 0 8) 13 1 4) 13 2 2) 13 3 1) 14 0 1) 14 1 2) 14 2 4) 14 3 8) = zw (D, ty, h, ZX1) (zset (zset (zset (zset (zset (zset (zset (zset zM0 13 0 8) 13 1 4) 13 2 2) 13 3 1) 14 0 1) 14 1 2) 14 2 4) 14 3 8) := zgw_zw (fr := [some (some 1), some (some 2), some (some 3), some (some 4), some (some 13), some (some 14)]) (by rfl)
set_option maxRecDepth 20000 in
theorem in_X1 (l : Launch) (D : va_G) (ty : Nat → ClassId) (h dd : Nat) {P : ZM → Prop} (hP : tl_X1 ZX1 (KK ZX1 (fun _ _ _ => .null) (dd + 1)) ([.ref 0], (zset (zset (zset (zset (zset (zset (zset (zset zM0 13 0 8) 13 1 4) 13 2 2) 13 3 1) 14 0 1) 14 1 2) 14 2 4) 14 3 8)) (fun _ => False) (zNP P) (fun _ _ => False)) : ZN l (D, ty, h, ZX1) (dd + 1 + 1) 1 [.null, .null, .null, .null, .null, .null] (yX1_init, cX1_init, 1, none) 14 112 P := by
  refine ZN.of (by decide +kernel) rfl rfl (by decide) ?_
  intro p e s m args below meth c C hO hsz
  refine g_aload0 C dX1_init_0 ?_
  refine g_obj C (z_tw 31 (by decide +kernel)) (z_tw 24 (by decide +kernel)) (z_tw 25 (by decide +kernel)) ⟨by show 1 ≤ dd + 1 + 1; omega, by show 12 ≤ 40 * (dd + 1 + 1); omega⟩ dX1_init_1 ?_
  refine g_aload0 C dX1_init_4 ?_
  refine g_bipush (v := 8) C (by decide) dX1_init_5 ?_
  refine g_newa (t := 0) (k := 8) (ty := .int) C rfl rfl (g_ra C (t := 0) rfl) (z_tw 63 (by decide +kernel)) (fun _ => rfl) (by decide) (by decide) (by decide) (Nat.le_of_ble_eq_true rfl) (Nat.le_of_ble_eq_true rfl) dX1_init_7 ?_
  show gW (D, ty, h) 15 1 1 p l e _ s m args below meth c _ 1 8 9 [.null, .null, .null, .null, .null, .null] (ZX1.tail.take 1) zM0 [.ref (h + 1), .ref h]
  refine g_put (k := 0) (T := TX1) (N := 6) (ty := (.array .int)) C zC1 (by decide) (by decide +kernel) (z_tw 37 (by decide +kernel)) rfl rfl rfl rfl (by show 0 < 6; decide) (Nat.le_of_ble_eq_true rfl) dX1_init_9 ?_
  show gW (D, ty, h) 15 1 1 p l e _ s m args below meth c _ 1 8 12 [.ref (h + 1), .null, .null, .null, .null, .null] (ZX1.tail.take 1) zM0 []
  refine g_aload0 C dX1_init_12 ?_
  refine g_bipush (v := 8) C (by decide) dX1_init_13 ?_
  refine g_newa (t := 0) (k := 8) (ty := .int) C rfl rfl (g_ra C (t := 0) rfl) (z_tw 63 (by decide +kernel)) (fun _ => rfl) (by decide) (by decide) (by decide) (Nat.le_of_ble_eq_true rfl) (Nat.le_of_ble_eq_true rfl) dX1_init_15 ?_
  show gW (D, ty, h) 15 1 1 p l e _ s m args below meth c _ 2 16 17 [.ref (h + 1), .null, .null, .null, .null, .null] (ZX1.tail.take 2) zM0 [.ref (h + 2), .ref h]
  refine g_put (k := 1) (T := TX1) (N := 6) (ty := (.array .int)) C zC1 (by decide) (by decide +kernel) (z_tw 38 (by decide +kernel)) rfl rfl rfl rfl (by show 1 < 6; decide) (Nat.le_of_ble_eq_true rfl) dX1_init_17 ?_
  show gW (D, ty, h) 15 1 1 p l e _ s m args below meth c _ 2 16 20 [.ref (h + 1), .ref (h + 2), .null, .null, .null, .null] (ZX1.tail.take 2) zM0 []
  refine g_aload0 C dX1_init_20 ?_
  refine g_bipush (v := 8) C (by decide) dX1_init_21 ?_
  refine g_newa (t := 0) (k := 8) (ty := .int) C rfl rfl (g_ra C (t := 0) rfl) (z_tw 63 (by decide +kernel)) (fun _ => rfl) (by decide) (by decide) (by decide) (Nat.le_of_ble_eq_true rfl) (Nat.le_of_ble_eq_true rfl) dX1_init_23 ?_
  show gW (D, ty, h) 15 1 1 p l e _ s m args below meth c _ 3 24 25 [.ref (h + 1), .ref (h + 2), .null, .null, .null, .null] (ZX1.tail.take 3) zM0 [.ref (h + 3), .ref h]
  refine g_put (k := 2) (T := TX1) (N := 6) (ty := (.array .int)) C zC1 (by decide) (by decide +kernel) (z_tw 39 (by decide +kernel)) rfl rfl rfl rfl (by show 2 < 6; decide) (Nat.le_of_ble_eq_true rfl) dX1_init_25 ?_
  show gW (D, ty, h) 15 1 1 p l e _ s m args below meth c _ 3 24 28 [.ref (h + 1), .ref (h + 2), .ref (h + 3), .null, .null, .null] (ZX1.tail.take 3) zM0 []
  refine g_aload0 C dX1_init_28 ?_
  refine g_bipush (v := 8) C (by decide) dX1_init_29 ?_
  refine g_bipush (v := 9) C (by decide) dX1_init_31 ?_
  refine g_mna (N := 8) (K := 9) C (z_tw 32 (by decide +kernel)) (zOv.args hO _) (z_tw 63 (by decide +kernel)) (g_ra C (t := 0) rfl) (g_ra C (t := 4) rfl) (by decide) (by decide) (by decide) (by decide) (by decide) (fun _ _ => rfl) (Nat.le_of_ble_eq_true rfl) (Nat.le_of_ble_eq_true rfl) dX1_init_33 ?_
  show gW (D, ty, h) 15 1 1 p l e _ s m args below meth c _ 12 104 37 [.ref (h + 1), .ref (h + 2), .ref (h + 3), .null, .null, .null] (ZX1.tail.take 12) zM0 [.ref (h + 4), .ref h]
  refine g_put (k := 3) (T := TX1) (N := 6) (ty := (.array (.array .int))) C zC1 (by decide) (by decide +kernel) (z_tw 42 (by decide +kernel)) rfl rfl rfl rfl (by show 3 < 6; decide) (Nat.le_of_ble_eq_true rfl) dX1_init_37 ?_
  show gW (D, ty, h) 15 1 1 p l e _ s m args below meth c _ 12 104 40 [.ref (h + 1), .ref (h + 2), .ref (h + 3), .ref (h + 4), .null, .null] (ZX1.tail.take 12) zM0 []
  refine g_aload0 C dX1_init_40 ?_
  refine g_iconst (v := 4) C (by decide) dX1_init_41 ?_
  refine g_newa (t := 0) (k := 4) (ty := .int) C rfl rfl (g_ra C (t := 0) rfl) (z_tw 63 (by decide +kernel)) (fun _ => rfl) (by decide) (by decide) (by decide) (Nat.le_of_ble_eq_true rfl) (Nat.le_of_ble_eq_true rfl) dX1_init_42 ?_
  show gW (D, ty, h) 15 1 1 p l e _ s m args below meth c _ 13 108 44 [.ref (h + 1), .ref (h + 2), .ref (h + 3), .ref (h + 4), .null, .null] (ZX1.tail.take 13) zM0 [.ref (h + 13), .ref h]
  refine g_dup C rfl dX1_init_44 ?_
  refine g_iconst (v := 0) C (by decide) dX1_init_45 ?_
  refine g_bipush (v := 8) C (by decide) dX1_init_46 ?_
  refine g_iast (j := 12) (k := 4) (q := 0) C rfl (by unfold vp_in; decide) (Nat.le_of_ble_eq_true rfl) dX1_init_48 ?_
  show gW (D, ty, h) 15 1 1 p l e _ s m args below meth c _ 13 108 49 [.ref (h + 1), .ref (h + 2), .ref (h + 3), .ref (h + 4), .null, .null] (ZX1.tail.take 13) (zset zM0 13 0 8) [.ref (h + 13), .ref h]
  refine g_dup C rfl dX1_init_49 ?_
  refine g_iconst (v := 1) C (by decide) dX1_init_50 ?_
  refine g_iconst (v := 4) C (by decide) dX1_init_51 ?_
  refine g_iast (j := 12) (k := 4) (q := 0) C rfl (by unfold vp_in; decide) (Nat.le_of_ble_eq_true rfl) dX1_init_52 ?_
  show gW (D, ty, h) 15 1 1 p l e _ s m args below meth c _ 13 108 53 [.ref (h + 1), .ref (h + 2), .ref (h + 3), .ref (h + 4), .null, .null] (ZX1.tail.take 13) (zset (zset zM0 13 0 8) 13 1 4) [.ref (h + 13), .ref h]
  refine g_dup C rfl dX1_init_53 ?_
  refine g_iconst (v := 2) C (by decide) dX1_init_54 ?_
  refine g_iconst (v := 2) C (by decide) dX1_init_55 ?_
  refine g_iast (j := 12) (k := 4) (q := 0) C rfl (by unfold vp_in; decide) (Nat.le_of_ble_eq_true rfl) dX1_init_56 ?_
  show gW (D, ty, h) 15 1 1 p l e _ s m args below meth c _ 13 108 57 [.ref (h + 1), .ref (h + 2), .ref (h + 3), .ref (h + 4), .null, .null] (ZX1.tail.take 13) (zset (zset (zset zM0 13 0 8) 13 1 4) 13 2 2) [.ref (h + 13), .ref h]
  refine g_dup C rfl dX1_init_57 ?_
  refine g_iconst (v := 3) C (by decide) dX1_init_58 ?_
  refine g_iconst (v := 1) C (by decide) dX1_init_59 ?_
  refine g_iast (j := 12) (k := 4) (q := 0) C rfl (by unfold vp_in; decide) (Nat.le_of_ble_eq_true rfl) dX1_init_60 ?_
  show gW (D, ty, h) 15 1 1 p l e _ s m args below meth c _ 13 108 61 [.ref (h + 1), .ref (h + 2), .ref (h + 3), .ref (h + 4), .null, .null] (ZX1.tail.take 13) (zset (zset (zset (zset zM0 13 0 8) 13 1 4) 13 2 2) 13 3 1) [.ref (h + 13), .ref h]
  refine g_put (k := 4) (T := TX1) (N := 6) (ty := (.array .int)) C zC1 (by decide) (by decide +kernel) (z_tw 44 (by decide +kernel)) rfl rfl rfl rfl (by show 4 < 6; decide) (Nat.le_of_ble_eq_true rfl) dX1_init_61 ?_
  show gW (D, ty, h) 15 1 1 p l e _ s m args below meth c _ 13 108 64 [.ref (h + 1), .ref (h + 2), .ref (h + 3), .ref (h + 4), .ref (h + 13), .null] (ZX1.tail.take 13) (zset (zset (zset (zset zM0 13 0 8) 13 1 4) 13 2 2) 13 3 1) []
  refine g_aload0 C dX1_init_64 ?_
  refine g_iconst (v := 4) C (by decide) dX1_init_65 ?_
  refine g_newa (t := 0) (k := 4) (ty := .int) C rfl rfl (g_ra C (t := 0) rfl) (z_tw 63 (by decide +kernel)) (fun _ => rfl) (by decide) (by decide) (by decide) (Nat.le_of_ble_eq_true rfl) (Nat.le_of_ble_eq_true rfl) dX1_init_66 ?_
  show gW (D, ty, h) 15 1 1 p l e _ s m args below meth c _ 14 112 68 [.ref (h + 1), .ref (h + 2), .ref (h + 3), .ref (h + 4), .ref (h + 13), .null] (ZX1.tail.take 14) (zset (zset (zset (zset zM0 13 0 8) 13 1 4) 13 2 2) 13 3 1) [.ref (h + 14), .ref h]
  refine g_dup C rfl dX1_init_68 ?_
  refine g_iconst (v := 0) C (by decide) dX1_init_69 ?_
  refine g_iconst (v := 1) C (by decide) dX1_init_70 ?_
  refine g_iast (j := 13) (k := 4) (q := 0) C rfl (by unfold vp_in; decide) (Nat.le_of_ble_eq_true rfl) dX1_init_71 ?_
  show gW (D, ty, h) 15 1 1 p l e _ s m args below meth c _ 14 112 72 [.ref (h + 1), .ref (h + 2), .ref (h + 3), .ref (h + 4), .ref (h + 13), .null] (ZX1.tail.take 14) (zset (zset (zset (zset (zset zM0 13 0 8) 13 1 4) 13 2 2) 13 3 1) 14 0 1) [.ref (h + 14), .ref h]
  refine g_dup C rfl dX1_init_72 ?_
  refine g_iconst (v := 1) C (by decide) dX1_init_73 ?_
  refine g_iconst (v := 2) C (by decide) dX1_init_74 ?_
  refine g_iast (j := 13) (k := 4) (q := 0) C rfl (by unfold vp_in; decide) (Nat.le_of_ble_eq_true rfl) dX1_init_75 ?_
  show gW (D, ty, h) 15 1 1 p l e _ s m args below meth c _ 14 112 76 [.ref (h + 1), .ref (h + 2), .ref (h + 3), .ref (h + 4), .ref (h + 13), .null] (ZX1.tail.take 14) (zset (zset (zset (zset (zset (zset zM0 13 0 8) 13 1 4) 13 2 2) 13 3 1) 14 0 1) 14 1 2) [.ref (h + 14), .ref h]
  refine g_dup C rfl dX1_init_76 ?_
  refine g_iconst (v := 2) C (by decide) dX1_init_77 ?_
  refine g_iconst (v := 4) C (by decide) dX1_init_78 ?_
  refine g_iast (j := 13) (k := 4) (q := 0) C rfl (by unfold vp_in; decide) (Nat.le_of_ble_eq_true rfl) dX1_init_79 ?_
  show gW (D, ty, h) 15 1 1 p l e _ s m args below meth c _ 14 112 80 [.ref (h + 1), .ref (h + 2), .ref (h + 3), .ref (h + 4), .ref (h + 13), .null] (ZX1.tail.take 14) (zset (zset (zset (zset (zset (zset (zset zM0 13 0 8) 13 1 4) 13 2 2) 13 3 1) 14 0 1) 14 1 2) 14 2 4) [.ref (h + 14), .ref h]
  refine g_dup C rfl dX1_init_80 ?_
  refine g_iconst (v := 3) C (by decide) dX1_init_81 ?_
  refine g_bipush (v := 8) C (by decide) dX1_init_82 ?_
  refine g_iast (j := 13) (k := 4) (q := 0) C rfl (by unfold vp_in; decide) (Nat.le_of_ble_eq_true rfl) dX1_init_84 ?_
  show gW (D, ty, h) 15 1 1 p l e _ s m args below meth c _ 14 112 85 [.ref (h + 1), .ref (h + 2), .ref (h + 3), .ref (h + 4), .ref (h + 13), .null] (ZX1.tail.take 14) (zset (zset (zset (zset (zset (zset (zset (zset zM0 13 0 8) 13 1 4) 13 2 2) 13 3 1) 14 0 1) 14 1 2) 14 2 4) 14 3 8) [.ref (h + 14), .ref h]
  refine g_put (k := 5) (T := TX1) (N := 6) (ty := (.array .int)) C zC1 (by decide) (by decide +kernel) (z_tw 48 (by decide +kernel)) rfl rfl rfl rfl (by show 5 < 6; decide) (Nat.le_of_ble_eq_true rfl) dX1_init_85 ?_
  show gW (D, ty, h) 15 1 1 p l e _ s m args below meth c _ 14 112 88 [.ref (h + 1), .ref (h + 2), .ref (h + 3), .ref (h + 4), .ref (h + 13), .ref (h + 14)] (ZX1.tail.take 14) (zset (zset (zset (zset (zset (zset (zset (zset zM0 13 0 8) 13 1 4) 13 2 2) 13 3 1) 14 0 1) 14 1 2) 14 2 4) 14 3 8) []
  refine g_tail (d := dd + 1) (n := 15) C (KK_met l (D, ty, h, ZX1) (fun _ _ _ => .null) ZX1_5 (dd + 1)) rfl rfl (zw_X1 D ty h) (ct_X1 (D, ty, h, ZX1) (dd + 1) _ ZX1_5) hP
def ZX2 : List ZD := [.inl (2, [none, none, none, none, some (some 1), some (some 2), some (some 3), some (some 4), some (some 13)]),
  .inr (0, 6, 0),
  .inr (0, 6, 0),
  .inr (0, 6, 0),
  .inr (4, 8, 5),
  .inr (0, 6, 0),
  .inr (0, 6, 0),
  .inr (0, 6, 0),
  .inr (0, 6, 0),
  .inr (0, 6, 0),
  .inr (0, 6, 0),
  .inr (0, 6, 0),
  .inr (0, 6, 0),
  .inr (4, 7, 14),
  .inr (0, 6, 0),
  .inr (0, 6, 0),
  .inr (0, 6, 0),
  .inr (0, 6, 0),
  .inr (0, 6, 0),
  .inr (0, 6, 0),
  .inr (0, 6, 0)]
theorem ZX2_5 : zt5 ZX2 := z5_of (by decide +kernel)
theorem dX2_init_0 : decode cX2_init 0 = .ok (.aload_n 0, 1) := by decide +kernel
theorem dX2_init_1 : decode cX2_init 1 = .ok (.invokespecial 3, 3) := by decide +kernel
theorem dX2_init_4 : decode cX2_init 4 = .ok (.aload_n 0, 1) := by decide +kernel
theorem dX2_init_5 : decode cX2_init 5 = .ok (.bipush 6, 2) := by decide +kernel
theorem dX2_init_7 : decode cX2_init 7 = .ok (.newarray .int, 2) := by decide +kernel
theorem dX2_init_9 : decode cX2_init 9 = .ok (.putfield 9, 3) := by decide +kernel
theorem dX2_init_12 : decode cX2_init 12 = .ok (.aload_n 0, 1) := by decide +kernel
theorem dX2_init_13 : decode cX2_init 13 = .ok (.bipush 6, 2) := by decide +kernel
theorem dX2_init_15 : decode cX2_init 15 = .ok (.newarray .int, 2) := by decide +kernel
theorem dX2_init_17 : decode cX2_init 17 = .ok (.putfield 15, 3) := by decide +kernel
theorem dX2_init_20 : decode cX2_init 20 = .ok (.aload_n 0, 1) := by decide +kernel
theorem dX2_init_21 : decode cX2_init 21 = .ok (.bipush 6, 2) := by decide +kernel
theorem dX2_init_23 : decode cX2_init 23 = .ok (.newarray .int, 2) := by decide +kernel
theorem dX2_init_25 : decode cX2_init 25 = .ok (.putfield 18, 3) := by decide +kernel
theorem dX2_init_28 : decode cX2_init 28 = .ok (.aload_n 0, 1) := by decide +kernel
theorem dX2_init_29 : decode cX2_init 29 = .ok (.bipush 8, 2) := by decide +kernel
theorem dX2_init_31 : decode cX2_init 31 = .ok (.bipush 6, 2) := by decide +kernel
theorem dX2_init_33 : decode cX2_init 33 = .ok (.multianewarray 21 2, 4) := by decide +kernel
theorem dX2_init_37 : decode cX2_init 37 = .ok (.putfield 23, 3) := by decide +kernel
theorem dX2_init_40 : decode cX2_init 40 = .ok (.aload_n 0, 1) := by decide +kernel
theorem dX2_init_41 : decode cX2_init 41 = .ok (.bipush 7, 2) := by decide +kernel
theorem dX2_init_43 : decode cX2_init 43 = .ok (.bipush 6, 2) := by decide +kernel
theorem dX2_init_45 : decode cX2_init 45 = .ok (.multianewarray 21 2, 4) := by decide +kernel
theorem dX2_init_49 : decode cX2_init 49 = .ok (.putfield 26, 3) := by decide +kernel
theorem dX2_init_52 : decode cX2_init 52 = .ok (.return_, 1) := by decide +kernel
def tl_X2 (Z : List ZD) (K : ZKt) : ZSt := sRetV
theorem ct_X2 (G : ZG) (d : Nat) (K : ZKt) (hT : zt5 G.2.2.2) : CS G RX2 cX2_init 1 d K none [] (fun _ => []) 52 (tl_X2 G.2.2.2 K) := by
  unfold tl_X2
  exact CS.retV dX2_init_52
theorem zw_X2 (D : va_G) (ty : Nat → ClassId) (h : Nat) : zgw (D, ty, h) 2 [.int 0, .int 0, .int 0, .int 0, .ref (h + 1), .ref (h + 2), .ref (h + 3), .ref (h + 4), .ref (h + 13)] (ZX2.tail.take 20) zM0 = zw (D, ty, h, ZX2) zM0 := zgw_zw (fr := [none, none, none, none, some (some 1), some (some 2), some (some 3), some (some 4), some (some 13)]) (by rfl)
set_option maxRecDepth 20000 in
theorem in_X2 (l : Launch) (D : va_G) (ty : Nat → ClassId) (h dd : Nat) {P : ZM → Prop} (hP : tl_X2 ZX2 (KK ZX2 (fun _ _ _ => .null) (dd + 1)) ([.ref 0], zM0) (fun _ => False) (zNP P) (fun _ _ => False)) : ZN l (D, ty, h, ZX2) (dd + 1 + 1) 2 [.int 0, .int 0, .int 0, .int 0, .null, .null, .null, .null, .null] (yX2_init, cX2_init, 1, none) 20 123 P := by
  refine ZN.of (by decide +kernel) rfl rfl (by decide) ?_
  intro p e s m args below meth c C hO hsz
  refine g_aload0 C dX2_init_0 ?_
  refine g_obj C (z_tw 157 (by decide +kernel)) (z_tw 24 (by decide +kernel)) (z_tw 25 (by decide +kernel)) ⟨by show 1 ≤ dd + 1 + 1; omega, by show 12 ≤ 40 * (dd + 1 + 1); omega⟩ dX2_init_1 ?_
  refine g_aload0 C dX2_init_4 ?_
  refine g_bipush (v := 6) C (by decide) dX2_init_5 ?_
  refine g_newa (t := 0) (k := 6) (ty := .int) C rfl rfl (g_ra C (t := 0) rfl) (z_tw 63 (by decide +kernel)) (fun _ => rfl) (by decide) (by decide) (by decide) (Nat.le_of_ble_eq_true rfl) (Nat.le_of_ble_eq_true rfl) dX2_init_7 ?_
  show gW (D, ty, h) 21 1 2 p l e _ s m args below meth c _ 1 6 9 [.int 0, .int 0, .int 0, .int 0, .null, .null, .null, .null, .null] (ZX2.tail.take 1) zM0 [.ref (h + 1), .ref h]
  refine g_put (k := 4) (T := TX2) (N := 9) (ty := (.array .int)) C zC2 (by decide) (by decide +kernel) (z_tw 165 (by decide +kernel)) rfl rfl rfl rfl (by show 4 < 9; decide) (Nat.le_of_ble_eq_true rfl) dX2_init_9 ?_
  show gW (D, ty, h) 21 1 2 p l e _ s m args below meth c _ 1 6 12 [.int 0, .int 0, .int 0, .int 0, .ref (h + 1), .null, .null, .null, .null] (ZX2.tail.take 1) zM0 []
  refine g_aload0 C dX2_init_12 ?_
  refine g_bipush (v := 6) C (by decide) dX2_init_13 ?_
  refine g_newa (t := 0) (k := 6) (ty := .int) C rfl rfl (g_ra C (t := 0) rfl) (z_tw 63 (by decide +kernel)) (fun _ => rfl) (by decide) (by decide) (by decide) (Nat.le_of_ble_eq_true rfl) (Nat.le_of_ble_eq_true rfl) dX2_init_15 ?_
  show gW (D, ty, h) 21 1 2 p l e _ s m args below meth c _ 2 12 17 [.int 0, .int 0, .int 0, .int 0, .ref (h + 1), .null, .null, .null, .null] (ZX2.tail.take 2) zM0 [.ref (h + 2), .ref h]
  refine g_put (k := 5) (T := TX2) (N := 9) (ty := (.array .int)) C zC2 (by decide) (by decide +kernel) (z_tw 166 (by decide +kernel)) rfl rfl rfl rfl (by show 5 < 9; decide) (Nat.le_of_ble_eq_true rfl) dX2_init_17 ?_
  show gW (D, ty, h) 21 1 2 p l e _ s m args below meth c _ 2 12 20 [.int 0, .int 0, .int 0, .int 0, .ref (h + 1), .ref (h + 2), .null, .null, .null] (ZX2.tail.take 2) zM0 []
  refine g_aload0 C dX2_init_20 ?_
  refine g_bipush (v := 6) C (by decide) dX2_init_21 ?_
  refine g_newa (t := 0) (k := 6) (ty := .int) C rfl rfl (g_ra C (t := 0) rfl) (z_tw 63 (by decide +kernel)) (fun _ => rfl) (by decide) (by decide) (by decide) (Nat.le_of_ble_eq_true rfl) (Nat.le_of_ble_eq_true rfl) dX2_init_23 ?_
  show gW (D, ty, h) 21 1 2 p l e _ s m args below meth c _ 3 18 25 [.int 0, .int 0, .int 0, .int 0, .ref (h + 1), .ref (h + 2), .null, .null, .null] (ZX2.tail.take 3) zM0 [.ref (h + 3), .ref h]
  refine g_put (k := 6) (T := TX2) (N := 9) (ty := (.array .int)) C zC2 (by decide) (by decide +kernel) (z_tw 167 (by decide +kernel)) rfl rfl rfl rfl (by show 6 < 9; decide) (Nat.le_of_ble_eq_true rfl) dX2_init_25 ?_
  show gW (D, ty, h) 21 1 2 p l e _ s m args below meth c _ 3 18 28 [.int 0, .int 0, .int 0, .int 0, .ref (h + 1), .ref (h + 2), .ref (h + 3), .null, .null] (ZX2.tail.take 3) zM0 []
  refine g_aload0 C dX2_init_28 ?_
  refine g_bipush (v := 8) C (by decide) dX2_init_29 ?_
  refine g_bipush (v := 6) C (by decide) dX2_init_31 ?_
  refine g_mna (N := 8) (K := 6) C (z_tw 158 (by decide +kernel)) (zOv.args hO _) (z_tw 63 (by decide +kernel)) (g_ra C (t := 0) rfl) (g_ra C (t := 4) rfl) (by decide) (by decide) (by decide) (by decide) (by decide) (fun _ _ => rfl) (Nat.le_of_ble_eq_true rfl) (Nat.le_of_ble_eq_true rfl) dX2_init_33 ?_
  show gW (D, ty, h) 21 1 2 p l e _ s m args below meth c _ 12 74 37 [.int 0, .int 0, .int 0, .int 0, .ref (h + 1), .ref (h + 2), .ref (h + 3), .null, .null] (ZX2.tail.take 12) zM0 [.ref (h + 4), .ref h]
  refine g_put (k := 7) (T := TX2) (N := 9) (ty := (.array (.array .int))) C zC2 (by decide) (by decide +kernel) (z_tw 168 (by decide +kernel)) rfl rfl rfl rfl (by show 7 < 9; decide) (Nat.le_of_ble_eq_true rfl) dX2_init_37 ?_
  show gW (D, ty, h) 21 1 2 p l e _ s m args below meth c _ 12 74 40 [.int 0, .int 0, .int 0, .int 0, .ref (h + 1), .ref (h + 2), .ref (h + 3), .ref (h + 4), .null] (ZX2.tail.take 12) zM0 []
  refine g_aload0 C dX2_init_40 ?_
  refine g_bipush (v := 7) C (by decide) dX2_init_41 ?_
  refine g_bipush (v := 6) C (by decide) dX2_init_43 ?_
  refine g_mna (N := 7) (K := 6) C (z_tw 158 (by decide +kernel)) (zOv.args hO _) (z_tw 63 (by decide +kernel)) (g_ra C (t := 0) rfl) (g_ra C (t := 4) rfl) (by decide) (by decide) (by decide) (by decide) (by decide) (fun _ _ => rfl) (Nat.le_of_ble_eq_true rfl) (Nat.le_of_ble_eq_true rfl) dX2_init_45 ?_
  show gW (D, ty, h) 21 1 2 p l e _ s m args below meth c _ 20 123 49 [.int 0, .int 0, .int 0, .int 0, .ref (h + 1), .ref (h + 2), .ref (h + 3), .ref (h + 4), .null] (ZX2.tail.take 20) zM0 [.ref (h + 13), .ref h]
  refine g_put (k := 8) (T := TX2) (N := 9) (ty := (.array (.array .int))) C zC2 (by decide) (by decide +kernel) (z_tw 169 (by decide +kernel)) rfl rfl rfl rfl (by show 8 < 9; decide) (Nat.le_of_ble_eq_true rfl) dX2_init_49 ?_
  show gW (D, ty, h) 21 1 2 p l e _ s m args below meth c _ 20 123 52 [.int 0, .int 0, .int 0, .int 0, .ref (h + 1), .ref (h + 2), .ref (h + 3), .ref (h + 4), .ref (h + 13)] (ZX2.tail.take 20) zM0 []
  refine g_tail (d := dd + 1) (n := 21) C (KK_met l (D, ty, h, ZX2) (fun _ _ _ => .null) ZX2_5 (dd + 1)) rfl rfl (zw_X2 D ty h) (ct_X2 (D, ty, h, ZX2) (dd + 1) _ ZX2_5) hP
def ZX3 : List ZD := [.inl (3, [none, some (some 1), some (some 2), some (some 9)]),
  .inr (0, 6, 0),
  .inr (4, 6, 3),
  .inr (0, 4, 0),
  .inr (0, 4, 0),
  .inr (0, 4, 0),
  .inr (0, 4, 0),
  .inr (0, 4, 0),
  .inr (0, 4, 0),
  .inr (0, 4, 0)]
theorem ZX3_5 : zt5 ZX3 := z5_of (by decide +kernel)
theorem dX3_init_0 : decode cX3_init 0 = .ok (.aload_n 0, 1) := by decide +kernel
theorem dX3_init_1 : decode cX3_init 1 = .ok (.invokespecial 3, 3) := by decide +kernel
theorem dX3_init_4 : decode cX3_init 4 = .ok (.aload_n 0, 1) := by decide +kernel
theorem dX3_init_5 : decode cX3_init 5 = .ok (.bipush 6, 2) := by decide +kernel
theorem dX3_init_7 : decode cX3_init 7 = .ok (.newarray .int, 2) := by decide +kernel
theorem dX3_init_9 : decode cX3_init 9 = .ok (.putfield 9, 3) := by decide +kernel
theorem dX3_init_12 : decode cX3_init 12 = .ok (.aload_n 0, 1) := by decide +kernel
theorem dX3_init_13 : decode cX3_init 13 = .ok (.bipush 6, 2) := by decide +kernel
theorem dX3_init_15 : decode cX3_init 15 = .ok (.iconst 4, 1) := by decide +kernel
theorem dX3_init_16 : decode cX3_init 16 = .ok (.multianewarray 15 2, 4) := by decide +kernel
theorem dX3_init_20 : decode cX3_init 20 = .ok (.putfield 17, 3) := by decide +kernel
theorem dX3_init_23 : decode cX3_init 23 = .ok (.aload_n 0, 1) := by decide +kernel
theorem dX3_init_24 : decode cX3_init 24 = .ok (.iconst 4, 1) := by decide +kernel
theorem dX3_init_25 : decode cX3_init 25 = .ok (.newarray .int, 2) := by decide +kernel
theorem dX3_init_27 : decode cX3_init 27 = .ok (.putfield 20, 3) := by decide +kernel
theorem dX3_init_30 : decode cX3_init 30 = .ok (.return_, 1) := by decide +kernel
def tl_X3 (Z : List ZD) (K : ZKt) : ZSt := sRetV
theorem ct_X3 (G : ZG) (d : Nat) (K : ZKt) (hT : zt5 G.2.2.2) : CS G RX3 cX3_init 1 d K none [] (fun _ => []) 30 (tl_X3 G.2.2.2 K) := by
  unfold tl_X3
  exact CS.retV dX3_init_30
theorem zw_X3 (D : va_G) (ty : Nat → ClassId) (h : Nat) : zgw (D, ty, h) 3 [.int 0, .ref (h + 1), .ref (h + 2), .ref (h + 9)] (ZX3.tail.take 9) zM0 = zw (D, ty, h, ZX3) zM0 := zgw_zw (fr := [none, some (some 1), some (some 2), some (some 9)]) (by rfl)
set_option maxRecDepth 20000 in
theorem in_X3 (l : Launch) (D : va_G) (ty : Nat → ClassId) (h dd : Nat) {P : ZM → Prop} (hP : tl_X3 ZX3 (KK ZX3 (fun _ _ _ => .null) (dd + 1)) ([.ref 0], zM0) (fun _ => False) (zNP P) (fun _ _ => False)) : ZN l (D, ty, h, ZX3) (dd + 1 + 1) 3 [.int 0, .null, .null, .null] (yX3_init, cX3_init, 1, none) 9 40 P := by
  refine ZN.of (by decide +kernel) rfl rfl (by decide) ?_
  intro p e s m args below meth c C hO hsz
  refine g_aload0 C dX3_init_0 ?_
  refine g_obj C (z_tw 377 (by decide +kernel)) (z_tw 24 (by decide +kernel)) (z_tw 25 (by decide +kernel)) ⟨by show 1 ≤ dd + 1 + 1; omega, by show 12 ≤ 40 * (dd + 1 + 1); omega⟩ dX3_init_1 ?_
  refine g_aload0 C dX3_init_4 ?_
  refine g_bipush (v := 6) C (by decide) dX3_init_5 ?_
  refine g_newa (t := 0) (k := 6) (ty := .int) C rfl rfl (g_ra C (t := 0) rfl) (z_tw 63 (by decide +kernel)) (fun _ => rfl) (by decide) (by decide) (by decide) (Nat.le_of_ble_eq_true rfl) (Nat.le_of_ble_eq_true rfl) dX3_init_7 ?_
  show gW (D, ty, h) 10 1 3 p l e _ s m args below meth c _ 1 6 9 [.int 0, .null, .null, .null] (ZX3.tail.take 1) zM0 [.ref (h + 1), .ref h]
  refine g_put (k := 1) (T := TX3) (N := 4) (ty := (.array .int)) C zC3 (by decide) (by decide +kernel) (z_tw 381 (by decide +kernel)) rfl rfl rfl rfl (by show 1 < 4; decide) (Nat.le_of_ble_eq_true rfl) dX3_init_9 ?_
  show gW (D, ty, h) 10 1 3 p l e _ s m args below meth c _ 1 6 12 [.int 0, .ref (h + 1), .null, .null] (ZX3.tail.take 1) zM0 []
  refine g_aload0 C dX3_init_12 ?_
  refine g_bipush (v := 6) C (by decide) dX3_init_13 ?_
  refine g_iconst (v := 4) C (by decide) dX3_init_15 ?_
  refine g_mna (N := 6) (K := 4) C (z_tw 378 (by decide +kernel)) (zOv.args hO _) (z_tw 63 (by decide +kernel)) (g_ra C (t := 0) rfl) (g_ra C (t := 4) rfl) (by decide) (by decide) (by decide) (by decide) (by decide) (fun _ _ => rfl) (Nat.le_of_ble_eq_true rfl) (Nat.le_of_ble_eq_true rfl) dX3_init_16 ?_
  show gW (D, ty, h) 10 1 3 p l e _ s m args below meth c _ 8 36 20 [.int 0, .ref (h + 1), .null, .null] (ZX3.tail.take 8) zM0 [.ref (h + 2), .ref h]
  refine g_put (k := 2) (T := TX3) (N := 4) (ty := (.array (.array .int))) C zC3 (by decide) (by decide +kernel) (z_tw 382 (by decide +kernel)) rfl rfl rfl rfl (by show 2 < 4; decide) (Nat.le_of_ble_eq_true rfl) dX3_init_20 ?_
  show gW (D, ty, h) 10 1 3 p l e _ s m args below meth c _ 8 36 23 [.int 0, .ref (h + 1), .ref (h + 2), .null] (ZX3.tail.take 8) zM0 []
  refine g_aload0 C dX3_init_23 ?_
  refine g_iconst (v := 4) C (by decide) dX3_init_24 ?_
  refine g_newa (t := 0) (k := 4) (ty := .int) C rfl rfl (g_ra C (t := 0) rfl) (z_tw 63 (by decide +kernel)) (fun _ => rfl) (by decide) (by decide) (by decide) (Nat.le_of_ble_eq_true rfl) (Nat.le_of_ble_eq_true rfl) dX3_init_25 ?_
  show gW (D, ty, h) 10 1 3 p l e _ s m args below meth c _ 9 40 27 [.int 0, .ref (h + 1), .ref (h + 2), .null] (ZX3.tail.take 9) zM0 [.ref (h + 9), .ref h]
  refine g_put (k := 3) (T := TX3) (N := 4) (ty := (.array .int)) C zC3 (by decide) (by decide +kernel) (z_tw 384 (by decide +kernel)) rfl rfl rfl rfl (by show 3 < 4; decide) (Nat.le_of_ble_eq_true rfl) dX3_init_27 ?_
  show gW (D, ty, h) 10 1 3 p l e _ s m args below meth c _ 9 40 30 [.int 0, .ref (h + 1), .ref (h + 2), .ref (h + 9)] (ZX3.tail.take 9) zM0 []
  refine g_tail (d := dd + 1) (n := 10) C (KK_met l (D, ty, h, ZX3) (fun _ _ _ => .null) ZX3_5 (dd + 1)) rfl rfl (zw_X3 D ty h) (ct_X3 (D, ty, h, ZX3) (dd + 1) _ ZX3_5) hP
def ZX4 : List ZD := [.inl (4, [some (some 1), some (some 8), some (some 9), some (some 10), none, none, none]),
  .inr (4, 6, 2),
  .inr (0, 8, 0),
  .inr (0, 8, 0),
  .inr (0, 8, 0),
  .inr (0, 8, 0),
  .inr (0, 8, 0),
  .inr (0, 8, 0),
  .inr (0, 24, 0),
  .inr (0, 6, 0),
  .inr (0, 6, 0)]
theorem ZX4_5 : zt5 ZX4 := z5_of (by decide +kernel)
theorem dX4_init_0 : decode cX4_init 0 = .ok (.aload_n 0, 1) := by decide +kernel
theorem dX4_init_1 : decode cX4_init 1 = .ok (.invokespecial 3, 3) := by decide +kernel
theorem dX4_init_4 : decode cX4_init 4 = .ok (.aload_n 0, 1) := by decide +kernel
theorem dX4_init_5 : decode cX4_init 5 = .ok (.bipush 6, 2) := by decide +kernel
theorem dX4_init_7 : decode cX4_init 7 = .ok (.bipush 8, 2) := by decide +kernel
theorem dX4_init_9 : decode cX4_init 9 = .ok (.multianewarray 9 2, 4) := by decide +kernel
theorem dX4_init_13 : decode cX4_init 13 = .ok (.putfield 11, 3) := by decide +kernel
theorem dX4_init_16 : decode cX4_init 16 = .ok (.aload_n 0, 1) := by decide +kernel
theorem dX4_init_17 : decode cX4_init 17 = .ok (.bipush 24, 2) := by decide +kernel
theorem dX4_init_19 : decode cX4_init 19 = .ok (.newarray .int, 2) := by decide +kernel
theorem dX4_init_21 : decode cX4_init 21 = .ok (.putfield 16, 3) := by decide +kernel
theorem dX4_init_24 : decode cX4_init 24 = .ok (.aload_n 0, 1) := by decide +kernel
theorem dX4_init_25 : decode cX4_init 25 = .ok (.bipush 6, 2) := by decide +kernel
theorem dX4_init_27 : decode cX4_init 27 = .ok (.newarray .int, 2) := by decide +kernel
theorem dX4_init_29 : decode cX4_init 29 = .ok (.putfield 20, 3) := by decide +kernel
theorem dX4_init_32 : decode cX4_init 32 = .ok (.aload_n 0, 1) := by decide +kernel
theorem dX4_init_33 : decode cX4_init 33 = .ok (.bipush 6, 2) := by decide +kernel
theorem dX4_init_35 : decode cX4_init 35 = .ok (.newarray .int, 2) := by decide +kernel
theorem dX4_init_37 : decode cX4_init 37 = .ok (.putfield 23, 3) := by decide +kernel
theorem dX4_init_40 : decode cX4_init 40 = .ok (.aload_n 0, 1) := by decide +kernel
theorem dX4_init_41 : decode cX4_init 41 = .ok (.getfield 11, 3) := by decide +kernel
theorem dX4_init_44 : decode cX4_init 44 = .ok (.astore_n 1, 1) := by decide +kernel
theorem dX4_init_45 : decode cX4_init 45 = .ok (.aload_n 1, 1) := by decide +kernel
theorem dX4_init_46 : decode cX4_init 46 = .ok (.arraylength, 1) := by decide +kernel
theorem dX4_init_47 : decode cX4_init 47 = .ok (.istore_n 2, 1) := by decide +kernel
theorem dX4_init_48 : decode cX4_init 48 = .ok (.iconst 0, 1) := by decide +kernel
theorem dX4_init_49 : decode cX4_init 49 = .ok (.istore_n 3, 1) := by decide +kernel
theorem dX4_init_50 : decode cX4_init 50 = .ok (.iload_n 3, 1) := by decide +kernel
theorem dX4_init_51 : decode cX4_init 51 = .ok (.iload_n 2, 1) := by decide +kernel
theorem dX4_init_52 : decode cX4_init 52 = .ok (.if_icmp .ge 20, 3) := by decide +kernel
theorem dX4_init_55 : decode cX4_init 55 = .ok (.aload_n 1, 1) := by decide +kernel
theorem dX4_init_56 : decode cX4_init 56 = .ok (.iload_n 3, 1) := by decide +kernel
theorem dX4_init_57 : decode cX4_init 57 = .ok (.aaload, 1) := by decide +kernel
theorem dX4_init_58 : decode cX4_init 58 = .ok (.astore 4, 2) := by decide +kernel
theorem dX4_init_60 : decode cX4_init 60 = .ok (.aload 4, 2) := by decide +kernel
theorem dX4_init_62 : decode cX4_init 62 = .ok (.iconst (-1), 1) := by decide +kernel
theorem dX4_init_63 : decode cX4_init 63 = .ok (.invokestatic 26, 3) := by decide +kernel
theorem dX4_init_66 : decode cX4_init 66 = .ok (.iinc 3 1, 3) := by decide +kernel
theorem dX4_init_69 : decode cX4_init 69 = .ok (.goto (-19), 3) := by decide +kernel
theorem dX4_init_72 : decode cX4_init 72 = .ok (.aload_n 0, 1) := by decide +kernel
theorem dX4_init_73 : decode cX4_init 73 = .ok (.getfield 16, 3) := by decide +kernel
theorem dX4_init_76 : decode cX4_init 76 = .ok (.iconst (-1), 1) := by decide +kernel
theorem dX4_init_77 : decode cX4_init 77 = .ok (.invokestatic 26, 3) := by decide +kernel
theorem dX4_init_80 : decode cX4_init 80 = .ok (.return_, 1) := by decide +kernel
def tl_X4 (Z : List ZD) (K : ZKt) : ZSt := (sSeq (sDecR 1 (xP (eFR Z 4 0 (eR 0)))) (sSeq (sDecI 2 (xP (eN Z (eR 1)))) (sSeq (sDecI 3 (xP (eK (0 : Int32)))) (sSeq (sWhl (xP (eB (fun x y : Int32 => decide (x < y)) (eV 3) (eV 2))) (sSeq (sScope 4 (sSeq (sDecR 4 (xP (eAR Z (eR 1) (eV 3)))) (sCS K 219 (aR (eR 4) (aI (eK ((-1) : Int32)) aN))))) (sInc 3 1))) (sSeq (sCS K 219 (aR (eFR Z 4 1 (eR 0)) (aI (eK ((-1) : Int32)) aN))) sRetV)))))
theorem ct_X4 (G : ZG) (d : Nat) (K : ZKt) (hT : zt5 G.2.2.2) : CS G RX4 cX4_init 5 d K none [] (fun _ => []) 40 (tl_X4 G.2.2.2 K) := by
  unfold tl_X4
  exact (CS.seq 45 (CS.decR_n (CX.pure (CE.getR (CE.aload_n rfl dX4_init_40 zhd) fs_X4_11 dX4_init_41 zhd)) rfl (by decide) dX4_init_44 zhd) (CS.seq 48 (CS.decI_n (CX.pure (CE.alen (CE.aload_n rfl dX4_init_45 zhd) dX4_init_46 zhd hT)) rfl (by decide) dX4_init_47 zhd) (CS.seq 50 (CS.decI_n (CX.pure (CE.iconst kI_0 dX4_init_48 zhd)) rfl (by decide) dX4_init_49 zhd) (CS.seq 72
  (CS.whl (T := 55) (F := 72) (p1 := 69) (CD.pure (CC.icmp_lt_F (T := 55) (F := 72) (CE.iload_n rfl dX4_init_50 zhd) (CE.iload_n rfl dX4_init_51 zhd) dX4_init_52 rfl rfl))
  (CS.seq 66 (CS.scope (CS.seq 60 (CS.decR (CX.pure (CE.aldR (CE.aload_n rfl dX4_init_55 zhd) (CE.iload_n rfl dX4_init_56 zhd) dX4_init_57 zhd)) (by decide) dX4_init_58 zhd) (CS.callS (CA.ref (CE.aload dX4_init_60 zhd) (CA.int (CE.iconst kI_m1 dX4_init_62 zhd) CA.nil)) zi_219 cs_X4_26 (fun _ => rfl) dX4_init_63 zhd)))
  (CS.inc kI_1 (by decide) dX4_init_66 zhd)) dX4_init_69 rfl zhd)
  (CS.seq 80 (CS.callS (CA.ref (CE.getR (CE.aload_n rfl dX4_init_72 zhd) fs_X4_16 dX4_init_73 zhd) (CA.int (CE.iconst kI_m1 dX4_init_76 zhd) CA.nil)) zi_219 cs_X4_26 (fun _ => rfl) dX4_init_77 zhd) (CS.retV dX4_init_80))))))
theorem zw_X4 (D : va_G) (ty : Nat → ClassId) (h : Nat) : zgw (D, ty, h) 4 [.ref (h + 1), .ref (h + 8), .ref (h + 9), .ref (h + 10), .int 0, .int 0, .int 0] (ZX4.tail.take 10) zM0 = zw (D, ty, h, ZX4) zM0 := zgw_zw (fr := [some (some 1), some (some 8), some (some 9), some (some 10), none, none, none]) (by rfl)
set_option maxRecDepth 20000 in
theorem in_X4 (l : Launch) (D : va_G) (ty : Nat → ClassId) (h dd : Nat) {P : ZM → Prop} (hP : tl_X4 ZX4 (KK ZX4 (fun _ _ _ => .null) (dd + 1)) ([.ref 0], zM0) (fun _ => False) (zNP P) (fun _ _ => False)) : ZN l (D, ty, h, ZX4) (dd + 1 + 1) 4 [.null, .null, .null, .null, .int 0, .int 0, .int 0] (yX4_init, cX4_init, 5, none) 10 90 P := by
  refine ZN.of (by decide +kernel) rfl rfl (by decide) ?_
  intro p e s m args below meth c C hO hsz
  refine g_aload0 C dX4_init_0 ?_
  refine g_obj C (z_tw 274 (by decide +kernel)) (z_tw 24 (by decide +kernel)) (z_tw 25 (by decide +kernel)) ⟨by show 1 ≤ dd + 1 + 1; omega, by show 12 ≤ 40 * (dd + 1 + 1); omega⟩ dX4_init_1 ?_
  refine g_aload0 C dX4_init_4 ?_
  refine g_bipush (v := 6) C (by decide) dX4_init_5 ?_
  refine g_bipush (v := 8) C (by decide) dX4_init_7 ?_
  refine g_mna (N := 6) (K := 8) C (z_tw 275 (by decide +kernel)) (zOv.args hO _) (z_tw 63 (by decide +kernel)) (g_ra C (t := 0) rfl) (g_ra C (t := 4) rfl) (by decide) (by decide) (by decide) (by decide) (by decide) (fun _ _ => rfl) (Nat.le_of_ble_eq_true rfl) (Nat.le_of_ble_eq_true rfl) dX4_init_9 ?_
  show gW (D, ty, h) 11 5 4 p l e _ s m args below meth c _ 7 54 13 [.null, .null, .null, .null, .int 0, .int 0, .int 0] (ZX4.tail.take 7) zM0 [.ref (h + 1), .ref h]
  refine g_put (k := 0) (T := TX4) (N := 7) (ty := (.array (.array .int))) C zC4 (by decide) (by decide +kernel) (z_tw 277 (by decide +kernel)) rfl rfl rfl rfl (by show 0 < 7; decide) (Nat.le_of_ble_eq_true rfl) dX4_init_13 ?_
  show gW (D, ty, h) 11 5 4 p l e _ s m args below meth c _ 7 54 16 [.ref (h + 1), .null, .null, .null, .int 0, .int 0, .int 0] (ZX4.tail.take 7) zM0 []
  refine g_aload0 C dX4_init_16 ?_
  refine g_bipush (v := 24) C (by decide) dX4_init_17 ?_
  refine g_newa (t := 0) (k := 24) (ty := .int) C rfl rfl (g_ra C (t := 0) rfl) (z_tw 63 (by decide +kernel)) (fun _ => rfl) (by decide) (by decide) (by decide) (Nat.le_of_ble_eq_true rfl) (Nat.le_of_ble_eq_true rfl) dX4_init_19 ?_
  show gW (D, ty, h) 11 5 4 p l e _ s m args below meth c _ 8 78 21 [.ref (h + 1), .null, .null, .null, .int 0, .int 0, .int 0] (ZX4.tail.take 8) zM0 [.ref (h + 8), .ref h]
  refine g_put (k := 1) (T := TX4) (N := 7) (ty := (.array .int)) C zC4 (by decide) (by decide +kernel) (z_tw 279 (by decide +kernel)) rfl rfl rfl rfl (by show 1 < 7; decide) (Nat.le_of_ble_eq_true rfl) dX4_init_21 ?_
  show gW (D, ty, h) 11 5 4 p l e _ s m args below meth c _ 8 78 24 [.ref (h + 1), .ref (h + 8), .null, .null, .int 0, .int 0, .int 0] (ZX4.tail.take 8) zM0 []
  refine g_aload0 C dX4_init_24 ?_
  refine g_bipush (v := 6) C (by decide) dX4_init_25 ?_
  refine g_newa (t := 0) (k := 6) (ty := .int) C rfl rfl (g_ra C (t := 0) rfl) (z_tw 63 (by decide +kernel)) (fun _ => rfl) (by decide) (by decide) (by decide) (Nat.le_of_ble_eq_true rfl) (Nat.le_of_ble_eq_true rfl) dX4_init_27 ?_
  show gW (D, ty, h) 11 5 4 p l e _ s m args below meth c _ 9 84 29 [.ref (h + 1), .ref (h + 8), .null, .null, .int 0, .int 0, .int 0] (ZX4.tail.take 9) zM0 [.ref (h + 9), .ref h]
  refine g_put (k := 2) (T := TX4) (N := 7) (ty := (.array .int)) C zC4 (by decide) (by decide +kernel) (z_tw 280 (by decide +kernel)) rfl rfl rfl rfl (by show 2 < 7; decide) (Nat.le_of_ble_eq_true rfl) dX4_init_29 ?_
  show gW (D, ty, h) 11 5 4 p l e _ s m args below meth c _ 9 84 32 [.ref (h + 1), .ref (h + 8), .ref (h + 9), .null, .int 0, .int 0, .int 0] (ZX4.tail.take 9) zM0 []
  refine g_aload0 C dX4_init_32 ?_
  refine g_bipush (v := 6) C (by decide) dX4_init_33 ?_
  refine g_newa (t := 0) (k := 6) (ty := .int) C rfl rfl (g_ra C (t := 0) rfl) (z_tw 63 (by decide +kernel)) (fun _ => rfl) (by decide) (by decide) (by decide) (Nat.le_of_ble_eq_true rfl) (Nat.le_of_ble_eq_true rfl) dX4_init_35 ?_
  show gW (D, ty, h) 11 5 4 p l e _ s m args below meth c _ 10 90 37 [.ref (h + 1), .ref (h + 8), .ref (h + 9), .null, .int 0, .int 0, .int 0] (ZX4.tail.take 10) zM0 [.ref (h + 10), .ref h]
  refine g_put (k := 3) (T := TX4) (N := 7) (ty := (.array .int)) C zC4 (by decide) (by decide +kernel) (z_tw 282 (by decide +kernel)) rfl rfl rfl rfl (by show 3 < 7; decide) (Nat.le_of_ble_eq_true rfl) dX4_init_37 ?_
  show gW (D, ty, h) 11 5 4 p l e _ s m args below meth c _ 10 90 40 [.ref (h + 1), .ref (h + 8), .ref (h + 9), .ref (h + 10), .int 0, .int 0, .int 0] (ZX4.tail.take 10) zM0 []
  refine g_tail (d := dd + 1) (n := 11) C (KK_met l (D, ty, h, ZX4) (fun _ _ _ => .null) ZX4_5 (dd + 1)) rfl rfl (zw_X4 D ty h) (ct_X4 (D, ty, h, ZX4) (dd + 1) _ ZX4_5) hP
def ZX5 : List ZD := [.inl (5, [none, some (some 1), some (some 2), some (some 3), none, none, none, some (some 4), some (some 5)]),
  .inr (0, 6, 0),
  .inr (0, 6, 0),
  .inr (0, 6, 0),
  .inr (0, 6, 0),
  .inr (0, 6, 0)]
theorem ZX5_5 : zt5 ZX5 := z5_of (by decide +kernel)
theorem dX5_init_0 : decode cX5_init 0 = .ok (.aload_n 0, 1) := by decide +kernel
theorem dX5_init_1 : decode cX5_init 1 = .ok (.invokespecial 3, 3) := by decide +kernel
theorem dX5_init_4 : decode cX5_init 4 = .ok (.aload_n 0, 1) := by decide +kernel
theorem dX5_init_5 : decode cX5_init 5 = .ok (.bipush 6, 2) := by decide +kernel
theorem dX5_init_7 : decode cX5_init 7 = .ok (.newarray .int, 2) := by decide +kernel
theorem dX5_init_9 : decode cX5_init 9 = .ok (.putfield 9, 3) := by decide +kernel
theorem dX5_init_12 : decode cX5_init 12 = .ok (.aload_n 0, 1) := by decide +kernel
theorem dX5_init_13 : decode cX5_init 13 = .ok (.bipush 6, 2) := by decide +kernel
theorem dX5_init_15 : decode cX5_init 15 = .ok (.newarray .int, 2) := by decide +kernel
theorem dX5_init_17 : decode cX5_init 17 = .ok (.putfield 15, 3) := by decide +kernel
theorem dX5_init_20 : decode cX5_init 20 = .ok (.aload_n 0, 1) := by decide +kernel
theorem dX5_init_21 : decode cX5_init 21 = .ok (.bipush 6, 2) := by decide +kernel
theorem dX5_init_23 : decode cX5_init 23 = .ok (.newarray .int, 2) := by decide +kernel
theorem dX5_init_25 : decode cX5_init 25 = .ok (.putfield 18, 3) := by decide +kernel
theorem dX5_init_28 : decode cX5_init 28 = .ok (.aload_n 0, 1) := by decide +kernel
theorem dX5_init_29 : decode cX5_init 29 = .ok (.bipush 6, 2) := by decide +kernel
theorem dX5_init_31 : decode cX5_init 31 = .ok (.newarray .int, 2) := by decide +kernel
theorem dX5_init_33 : decode cX5_init 33 = .ok (.putfield 21, 3) := by decide +kernel
theorem dX5_init_36 : decode cX5_init 36 = .ok (.aload_n 0, 1) := by decide +kernel
theorem dX5_init_37 : decode cX5_init 37 = .ok (.bipush 6, 2) := by decide +kernel
theorem dX5_init_39 : decode cX5_init 39 = .ok (.newarray .int, 2) := by decide +kernel
theorem dX5_init_41 : decode cX5_init 41 = .ok (.putfield 24, 3) := by decide +kernel
theorem dX5_init_44 : decode cX5_init 44 = .ok (.return_, 1) := by decide +kernel
def tl_X5 (Z : List ZD) (K : ZKt) : ZSt := sRetV
theorem ct_X5 (G : ZG) (d : Nat) (K : ZKt) (hT : zt5 G.2.2.2) : CS G RX5 cX5_init 1 d K none [] (fun _ => []) 44 (tl_X5 G.2.2.2 K) := by
  unfold tl_X5
  exact CS.retV dX5_init_44
theorem zw_X5 (D : va_G) (ty : Nat → ClassId) (h : Nat) : zgw (D, ty, h) 5 [.int 0, .ref (h + 1), .ref (h + 2), .ref (h + 3), .int 0, .int 0, .int 0, .ref (h + 4), .ref (h + 5)] (ZX5.tail.take 5) zM0 = zw (D, ty, h, ZX5) zM0 := zgw_zw (fr := [none, some (some 1), some (some 2), some (some 3), none, none, none, some (some 4), some (some 5)]) (by rfl)
set_option maxRecDepth 20000 in
theorem in_X5 (l : Launch) (D : va_G) (ty : Nat → ClassId) (h dd : Nat) {P : ZM → Prop} (hP : tl_X5 ZX5 (KK ZX5 (fun _ _ _ => .null) (dd + 1)) ([.ref 0], zM0) (fun _ => False) (zNP P) (fun _ _ => False)) : ZN l (D, ty, h, ZX5) (dd + 1 + 1) 5 [.int 0, .null, .null, .null, .int 0, .int 0, .int 0, .null, .null] (yX5_init, cX5_init, 1, none) 5 30 P := by
  refine ZN.of (by decide +kernel) rfl rfl (by decide) ?_
  intro p e s m args below meth c C hO hsz
  refine g_aload0 C dX5_init_0 ?_
  refine g_obj C (z_tw 340 (by decide +kernel)) (z_tw 24 (by decide +kernel)) (z_tw 25 (by decide +kernel)) ⟨by show 1 ≤ dd + 1 + 1; omega, by show 12 ≤ 40 * (dd + 1 + 1); omega⟩ dX5_init_1 ?_
  refine g_aload0 C dX5_init_4 ?_
  refine g_bipush (v := 6) C (by decide) dX5_init_5 ?_
  refine g_newa (t := 0) (k := 6) (ty := .int) C rfl rfl (g_ra C (t := 0) rfl) (z_tw 63 (by decide +kernel)) (fun _ => rfl) (by decide) (by decide) (by decide) (Nat.le_of_ble_eq_true rfl) (Nat.le_of_ble_eq_true rfl) dX5_init_7 ?_
  show gW (D, ty, h) 6 1 5 p l e _ s m args below meth c _ 1 6 9 [.int 0, .null, .null, .null, .int 0, .int 0, .int 0, .null, .null] (ZX5.tail.take 1) zM0 [.ref (h + 1), .ref h]
  refine g_put (k := 1) (T := TX5) (N := 9) (ty := (.array .int)) C zC5 (by decide) (by decide +kernel) (z_tw 343 (by decide +kernel)) rfl rfl rfl rfl (by show 1 < 9; decide) (Nat.le_of_ble_eq_true rfl) dX5_init_9 ?_
  show gW (D, ty, h) 6 1 5 p l e _ s m args below meth c _ 1 6 12 [.int 0, .ref (h + 1), .null, .null, .int 0, .int 0, .int 0, .null, .null] (ZX5.tail.take 1) zM0 []
  refine g_aload0 C dX5_init_12 ?_
  refine g_bipush (v := 6) C (by decide) dX5_init_13 ?_
  refine g_newa (t := 0) (k := 6) (ty := .int) C rfl rfl (g_ra C (t := 0) rfl) (z_tw 63 (by decide +kernel)) (fun _ => rfl) (by decide) (by decide) (by decide) (Nat.le_of_ble_eq_true rfl) (Nat.le_of_ble_eq_true rfl) dX5_init_15 ?_
  show gW (D, ty, h) 6 1 5 p l e _ s m args below meth c _ 2 12 17 [.int 0, .ref (h + 1), .null, .null, .int 0, .int 0, .int 0, .null, .null] (ZX5.tail.take 2) zM0 [.ref (h + 2), .ref h]
  refine g_put (k := 2) (T := TX5) (N := 9) (ty := (.array .int)) C zC5 (by decide) (by decide +kernel) (z_tw 344 (by decide +kernel)) rfl rfl rfl rfl (by show 2 < 9; decide) (Nat.le_of_ble_eq_true rfl) dX5_init_17 ?_
  show gW (D, ty, h) 6 1 5 p l e _ s m args below meth c _ 2 12 20 [.int 0, .ref (h + 1), .ref (h + 2), .null, .int 0, .int 0, .int 0, .null, .null] (ZX5.tail.take 2) zM0 []
  refine g_aload0 C dX5_init_20 ?_
  refine g_bipush (v := 6) C (by decide) dX5_init_21 ?_
  refine g_newa (t := 0) (k := 6) (ty := .int) C rfl rfl (g_ra C (t := 0) rfl) (z_tw 63 (by decide +kernel)) (fun _ => rfl) (by decide) (by decide) (by decide) (Nat.le_of_ble_eq_true rfl) (Nat.le_of_ble_eq_true rfl) dX5_init_23 ?_
  show gW (D, ty, h) 6 1 5 p l e _ s m args below meth c _ 3 18 25 [.int 0, .ref (h + 1), .ref (h + 2), .null, .int 0, .int 0, .int 0, .null, .null] (ZX5.tail.take 3) zM0 [.ref (h + 3), .ref h]
  refine g_put (k := 3) (T := TX5) (N := 9) (ty := (.array .int)) C zC5 (by decide) (by decide +kernel) (z_tw 345 (by decide +kernel)) rfl rfl rfl rfl (by show 3 < 9; decide) (Nat.le_of_ble_eq_true rfl) dX5_init_25 ?_
  show gW (D, ty, h) 6 1 5 p l e _ s m args below meth c _ 3 18 28 [.int 0, .ref (h + 1), .ref (h + 2), .ref (h + 3), .int 0, .int 0, .int 0, .null, .null] (ZX5.tail.take 3) zM0 []
  refine g_aload0 C dX5_init_28 ?_
  refine g_bipush (v := 6) C (by decide) dX5_init_29 ?_
  refine g_newa (t := 0) (k := 6) (ty := .int) C rfl rfl (g_ra C (t := 0) rfl) (z_tw 63 (by decide +kernel)) (fun _ => rfl) (by decide) (by decide) (by decide) (Nat.le_of_ble_eq_true rfl) (Nat.le_of_ble_eq_true rfl) dX5_init_31 ?_
  show gW (D, ty, h) 6 1 5 p l e _ s m args below meth c _ 4 24 33 [.int 0, .ref (h + 1), .ref (h + 2), .ref (h + 3), .int 0, .int 0, .int 0, .null, .null] (ZX5.tail.take 4) zM0 [.ref (h + 4), .ref h]
  refine g_put (k := 7) (T := TX5) (N := 9) (ty := (.array .int)) C zC5 (by decide) (by decide +kernel) (z_tw 351 (by decide +kernel)) rfl rfl rfl rfl (by show 7 < 9; decide) (Nat.le_of_ble_eq_true rfl) dX5_init_33 ?_
  show gW (D, ty, h) 6 1 5 p l e _ s m args below meth c _ 4 24 36 [.int 0, .ref (h + 1), .ref (h + 2), .ref (h + 3), .int 0, .int 0, .int 0, .ref (h + 4), .null] (ZX5.tail.take 4) zM0 []
  refine g_aload0 C dX5_init_36 ?_
  refine g_bipush (v := 6) C (by decide) dX5_init_37 ?_
  refine g_newa (t := 0) (k := 6) (ty := .int) C rfl rfl (g_ra C (t := 0) rfl) (z_tw 63 (by decide +kernel)) (fun _ => rfl) (by decide) (by decide) (by decide) (Nat.le_of_ble_eq_true rfl) (Nat.le_of_ble_eq_true rfl) dX5_init_39 ?_
  show gW (D, ty, h) 6 1 5 p l e _ s m args below meth c _ 5 30 41 [.int 0, .ref (h + 1), .ref (h + 2), .ref (h + 3), .int 0, .int 0, .int 0, .ref (h + 4), .null] (ZX5.tail.take 5) zM0 [.ref (h + 5), .ref h]
  refine g_put (k := 8) (T := TX5) (N := 9) (ty := (.array .int)) C zC5 (by decide) (by decide +kernel) (z_tw 352 (by decide +kernel)) rfl rfl rfl rfl (by show 8 < 9; decide) (Nat.le_of_ble_eq_true rfl) dX5_init_41 ?_
  show gW (D, ty, h) 6 1 5 p l e _ s m args below meth c _ 5 30 44 [.int 0, .ref (h + 1), .ref (h + 2), .ref (h + 3), .int 0, .int 0, .int 0, .ref (h + 4), .ref (h + 5)] (ZX5.tail.take 5) zM0 []
  refine g_tail (d := dd + 1) (n := 6) C (KK_met l (D, ty, h, ZX5) (fun _ _ _ => .null) ZX5_5 (dd + 1)) rfl rfl (zw_X5 D ty h) (ct_X5 (D, ty, h, ZX5) (dd + 1) _ ZX5_5) hP
def ZX6 : List ZD := [.inl (6, [some (some 1), none, some (some 2), some (some 3), none, none, none, none, none, none]),
  .inr (0, 40, 0),
  .inr (0, 6, 0),
  .inr (0, 6, 0)]
theorem ZX6_5 : zt5 ZX6 := z5_of (by decide +kernel)
theorem dX6_init_0 : decode cX6_init 0 = .ok (.aload_n 0, 1) := by decide +kernel
theorem dX6_init_1 : decode cX6_init 1 = .ok (.invokespecial 3, 3) := by decide +kernel
theorem dX6_init_4 : decode cX6_init 4 = .ok (.aload_n 0, 1) := by decide +kernel
theorem dX6_init_5 : decode cX6_init 5 = .ok (.bipush 40, 2) := by decide +kernel
theorem dX6_init_7 : decode cX6_init 7 = .ok (.newarray .int, 2) := by decide +kernel
theorem dX6_init_9 : decode cX6_init 9 = .ok (.putfield 9, 3) := by decide +kernel
theorem dX6_init_12 : decode cX6_init 12 = .ok (.aload_n 0, 1) := by decide +kernel
theorem dX6_init_13 : decode cX6_init 13 = .ok (.bipush 6, 2) := by decide +kernel
theorem dX6_init_15 : decode cX6_init 15 = .ok (.newarray .int, 2) := by decide +kernel
theorem dX6_init_17 : decode cX6_init 17 = .ok (.putfield 15, 3) := by decide +kernel
theorem dX6_init_20 : decode cX6_init 20 = .ok (.aload_n 0, 1) := by decide +kernel
theorem dX6_init_21 : decode cX6_init 21 = .ok (.bipush 6, 2) := by decide +kernel
theorem dX6_init_23 : decode cX6_init 23 = .ok (.newarray .int, 2) := by decide +kernel
theorem dX6_init_25 : decode cX6_init 25 = .ok (.putfield 18, 3) := by decide +kernel
theorem dX6_init_28 : decode cX6_init 28 = .ok (.return_, 1) := by decide +kernel
def tl_X6 (Z : List ZD) (K : ZKt) : ZSt := sRetV
theorem ct_X6 (G : ZG) (d : Nat) (K : ZKt) (hT : zt5 G.2.2.2) : CS G RX6 cX6_init 1 d K none [] (fun _ => []) 28 (tl_X6 G.2.2.2 K) := by
  unfold tl_X6
  exact CS.retV dX6_init_28
theorem zw_X6 (D : va_G) (ty : Nat → ClassId) (h : Nat) : zgw (D, ty, h) 6 [.ref (h + 1), .int 0, .ref (h + 2), .ref (h + 3), .int 0, .int 0, .int 0, .int 0, .int 0, .int 0] (ZX6.tail.take 3) zM0 = zw (D, ty, h, ZX6) zM0 := zgw_zw (fr := [some (some 1), none, some (some 2), some (some 3), none, none, none, none, none, none]) (by rfl)
set_option maxRecDepth 20000 in
theorem in_X6 (l : Launch) (D : va_G) (ty : Nat → ClassId) (h dd : Nat) {P : ZM → Prop} (hP : tl_X6 ZX6 (KK ZX6 (fun _ _ _ => .null) (dd + 1)) ([.ref 0], zM0) (fun _ => False) (zNP P) (fun _ _ => False)) : ZN l (D, ty, h, ZX6) (dd + 1 + 1) 6 [.null, .int 0, .null, .null, .int 0, .int 0, .int 0, .int 0, .int 0, .int 0] (yX6_init, cX6_init, 1, none) 3 52 P := by
  refine ZN.of (by decide +kernel) rfl rfl (by decide) ?_
  intro p e s m args below meth c C hO hsz
  refine g_aload0 C dX6_init_0 ?_
  refine g_obj C (z_tw 69 (by decide +kernel)) (z_tw 24 (by decide +kernel)) (z_tw 25 (by decide +kernel)) ⟨by show 1 ≤ dd + 1 + 1; omega, by show 12 ≤ 40 * (dd + 1 + 1); omega⟩ dX6_init_1 ?_
  refine g_aload0 C dX6_init_4 ?_
  refine g_bipush (v := 40) C (by decide) dX6_init_5 ?_
  refine g_newa (t := 0) (k := 40) (ty := .int) C rfl rfl (g_ra C (t := 0) rfl) (z_tw 63 (by decide +kernel)) (fun _ => rfl) (by decide) (by decide) (by decide) (Nat.le_of_ble_eq_true rfl) (Nat.le_of_ble_eq_true rfl) dX6_init_7 ?_
  show gW (D, ty, h) 4 1 6 p l e _ s m args below meth c _ 1 40 9 [.null, .int 0, .null, .null, .int 0, .int 0, .int 0, .int 0, .int 0, .int 0] (ZX6.tail.take 1) zM0 [.ref (h + 1), .ref h]
  refine g_put (k := 0) (T := TX6) (N := 10) (ty := (.array .int)) C zC6 (by decide) (by decide +kernel) (z_tw 70 (by decide +kernel)) rfl rfl rfl rfl (by show 0 < 10; decide) (Nat.le_of_ble_eq_true rfl) dX6_init_9 ?_
  show gW (D, ty, h) 4 1 6 p l e _ s m args below meth c _ 1 40 12 [.ref (h + 1), .int 0, .null, .null, .int 0, .int 0, .int 0, .int 0, .int 0, .int 0] (ZX6.tail.take 1) zM0 []
  refine g_aload0 C dX6_init_12 ?_
  refine g_bipush (v := 6) C (by decide) dX6_init_13 ?_
  refine g_newa (t := 0) (k := 6) (ty := .int) C rfl rfl (g_ra C (t := 0) rfl) (z_tw 63 (by decide +kernel)) (fun _ => rfl) (by decide) (by decide) (by decide) (Nat.le_of_ble_eq_true rfl) (Nat.le_of_ble_eq_true rfl) dX6_init_15 ?_
  show gW (D, ty, h) 4 1 6 p l e _ s m args below meth c _ 2 46 17 [.ref (h + 1), .int 0, .null, .null, .int 0, .int 0, .int 0, .int 0, .int 0, .int 0] (ZX6.tail.take 2) zM0 [.ref (h + 2), .ref h]
  refine g_put (k := 2) (T := TX6) (N := 10) (ty := (.array .int)) C zC6 (by decide) (by decide +kernel) (z_tw 73 (by decide +kernel)) rfl rfl rfl rfl (by show 2 < 10; decide) (Nat.le_of_ble_eq_true rfl) dX6_init_17 ?_
  show gW (D, ty, h) 4 1 6 p l e _ s m args below meth c _ 2 46 20 [.ref (h + 1), .int 0, .ref (h + 2), .null, .int 0, .int 0, .int 0, .int 0, .int 0, .int 0] (ZX6.tail.take 2) zM0 []
  refine g_aload0 C dX6_init_20 ?_
  refine g_bipush (v := 6) C (by decide) dX6_init_21 ?_
  refine g_newa (t := 0) (k := 6) (ty := .int) C rfl rfl (g_ra C (t := 0) rfl) (z_tw 63 (by decide +kernel)) (fun _ => rfl) (by decide) (by decide) (by decide) (Nat.le_of_ble_eq_true rfl) (Nat.le_of_ble_eq_true rfl) dX6_init_23 ?_
  show gW (D, ty, h) 4 1 6 p l e _ s m args below meth c _ 3 52 25 [.ref (h + 1), .int 0, .ref (h + 2), .null, .int 0, .int 0, .int 0, .int 0, .int 0, .int 0] (ZX6.tail.take 3) zM0 [.ref (h + 3), .ref h]
  refine g_put (k := 3) (T := TX6) (N := 10) (ty := (.array .int)) C zC6 (by decide) (by decide +kernel) (z_tw 75 (by decide +kernel)) rfl rfl rfl rfl (by show 3 < 10; decide) (Nat.le_of_ble_eq_true rfl) dX6_init_25 ?_
  show gW (D, ty, h) 4 1 6 p l e _ s m args below meth c _ 3 52 28 [.ref (h + 1), .int 0, .ref (h + 2), .ref (h + 3), .int 0, .int 0, .int 0, .int 0, .int 0, .int 0] (ZX6.tail.take 3) zM0 []
  refine g_tail (d := dd + 1) (n := 4) C (KK_met l (D, ty, h, ZX6) (fun _ _ _ => .null) ZX6_5 (dd + 1)) rfl rfl (zw_X6 D ty h) (ct_X6 (D, ty, h, ZX6) (dd + 1) _ ZX6_5) hP
def ZX7 : List ZD := [.inl (7, [none, none, some (some 1), some (some 2), some (some 3), some (some 4), some (some 5), some (some 6)]),
  .inr (0, 24, 0),
  .inr (0, 24, 0),
  .inr (0, 24, 0),
  .inr (0, 24, 0),
  .inr (0, 24, 0),
  .inr (0, 24, 0)]
theorem ZX7_5 : zt5 ZX7 := z5_of (by decide +kernel)
theorem dX7_init_0 : decode cX7_init 0 = .ok (.aload_n 0, 1) := by decide +kernel
theorem dX7_init_1 : decode cX7_init 1 = .ok (.invokespecial 3, 3) := by decide +kernel
theorem dX7_init_4 : decode cX7_init 4 = .ok (.aload_n 0, 1) := by decide +kernel
theorem dX7_init_5 : decode cX7_init 5 = .ok (.bipush 24, 2) := by decide +kernel
theorem dX7_init_7 : decode cX7_init 7 = .ok (.newarray .int, 2) := by decide +kernel
theorem dX7_init_9 : decode cX7_init 9 = .ok (.putfield 9, 3) := by decide +kernel
theorem dX7_init_12 : decode cX7_init 12 = .ok (.aload_n 0, 1) := by decide +kernel
theorem dX7_init_13 : decode cX7_init 13 = .ok (.bipush 24, 2) := by decide +kernel
theorem dX7_init_15 : decode cX7_init 15 = .ok (.newarray .int, 2) := by decide +kernel
theorem dX7_init_17 : decode cX7_init 17 = .ok (.putfield 15, 3) := by decide +kernel
theorem dX7_init_20 : decode cX7_init 20 = .ok (.aload_n 0, 1) := by decide +kernel
theorem dX7_init_21 : decode cX7_init 21 = .ok (.bipush 24, 2) := by decide +kernel
theorem dX7_init_23 : decode cX7_init 23 = .ok (.newarray .int, 2) := by decide +kernel
theorem dX7_init_25 : decode cX7_init 25 = .ok (.putfield 18, 3) := by decide +kernel
theorem dX7_init_28 : decode cX7_init 28 = .ok (.aload_n 0, 1) := by decide +kernel
theorem dX7_init_29 : decode cX7_init 29 = .ok (.bipush 24, 2) := by decide +kernel
theorem dX7_init_31 : decode cX7_init 31 = .ok (.newarray .int, 2) := by decide +kernel
theorem dX7_init_33 : decode cX7_init 33 = .ok (.putfield 21, 3) := by decide +kernel
theorem dX7_init_36 : decode cX7_init 36 = .ok (.aload_n 0, 1) := by decide +kernel
theorem dX7_init_37 : decode cX7_init 37 = .ok (.bipush 24, 2) := by decide +kernel
theorem dX7_init_39 : decode cX7_init 39 = .ok (.newarray .int, 2) := by decide +kernel
theorem dX7_init_41 : decode cX7_init 41 = .ok (.putfield 24, 3) := by decide +kernel
theorem dX7_init_44 : decode cX7_init 44 = .ok (.aload_n 0, 1) := by decide +kernel
theorem dX7_init_45 : decode cX7_init 45 = .ok (.bipush 24, 2) := by decide +kernel
theorem dX7_init_47 : decode cX7_init 47 = .ok (.newarray .int, 2) := by decide +kernel
theorem dX7_init_49 : decode cX7_init 49 = .ok (.putfield 27, 3) := by decide +kernel
theorem dX7_init_52 : decode cX7_init 52 = .ok (.return_, 1) := by decide +kernel
def tl_X7 (Z : List ZD) (K : ZKt) : ZSt := sRetV
theorem ct_X7 (G : ZG) (d : Nat) (K : ZKt) (hT : zt5 G.2.2.2) : CS G RX7 cX7_init 1 d K none [] (fun _ => []) 52 (tl_X7 G.2.2.2 K) := by
  unfold tl_X7
  exact CS.retV dX7_init_52
theorem zw_X7 (D : va_G) (ty : Nat → ClassId) (h : Nat) : zgw (D, ty, h) 7 [.int 0, .int 0, .ref (h + 1), .ref (h + 2), .ref (h + 3), .ref (h + 4), .ref (h + 5), .ref (h + 6)] (ZX7.tail.take 6) zM0 = zw (D, ty, h, ZX7) zM0 := zgw_zw (fr := [none, none, some (some 1), some (some 2), some (some 3), some (some 4), some (some 5), some (some 6)]) (by rfl)
set_option maxRecDepth 20000 in
theorem in_X7 (l : Launch) (D : va_G) (ty : Nat → ClassId) (h dd : Nat) {P : ZM → Prop} (hP : tl_X7 ZX7 (KK ZX7 (fun _ _ _ => .null) (dd + 1)) ([.ref 0], zM0) (fun _ => False) (zNP P) (fun _ _ => False)) : ZN l (D, ty, h, ZX7) (dd + 1 + 1) 7 [.int 0, .int 0, .null, .null, .null, .null, .null, .null] (yX7_init, cX7_init, 1, none) 6 144 P := by
  refine ZN.of (by decide +kernel) rfl rfl (by decide) ?_
  intro p e s m args below meth c C hO hsz
  refine g_aload0 C dX7_init_0 ?_
  refine g_obj C (z_tw 243 (by decide +kernel)) (z_tw 24 (by decide +kernel)) (z_tw 25 (by decide +kernel)) ⟨by show 1 ≤ dd + 1 + 1; omega, by show 12 ≤ 40 * (dd + 1 + 1); omega⟩ dX7_init_1 ?_
  refine g_aload0 C dX7_init_4 ?_
  refine g_bipush (v := 24) C (by decide) dX7_init_5 ?_
  refine g_newa (t := 0) (k := 24) (ty := .int) C rfl rfl (g_ra C (t := 0) rfl) (z_tw 63 (by decide +kernel)) (fun _ => rfl) (by decide) (by decide) (by decide) (Nat.le_of_ble_eq_true rfl) (Nat.le_of_ble_eq_true rfl) dX7_init_7 ?_
  show gW (D, ty, h) 7 1 7 p l e _ s m args below meth c _ 1 24 9 [.int 0, .int 0, .null, .null, .null, .null, .null, .null] (ZX7.tail.take 1) zM0 [.ref (h + 1), .ref h]
  refine g_put (k := 2) (T := TX7) (N := 8) (ty := (.array .int)) C zC7 (by decide) (by decide +kernel) (z_tw 246 (by decide +kernel)) rfl rfl rfl rfl (by show 2 < 8; decide) (Nat.le_of_ble_eq_true rfl) dX7_init_9 ?_
  show gW (D, ty, h) 7 1 7 p l e _ s m args below meth c _ 1 24 12 [.int 0, .int 0, .ref (h + 1), .null, .null, .null, .null, .null] (ZX7.tail.take 1) zM0 []
  refine g_aload0 C dX7_init_12 ?_
  refine g_bipush (v := 24) C (by decide) dX7_init_13 ?_
  refine g_newa (t := 0) (k := 24) (ty := .int) C rfl rfl (g_ra C (t := 0) rfl) (z_tw 63 (by decide +kernel)) (fun _ => rfl) (by decide) (by decide) (by decide) (Nat.le_of_ble_eq_true rfl) (Nat.le_of_ble_eq_true rfl) dX7_init_15 ?_
  show gW (D, ty, h) 7 1 7 p l e _ s m args below meth c _ 2 48 17 [.int 0, .int 0, .ref (h + 1), .null, .null, .null, .null, .null] (ZX7.tail.take 2) zM0 [.ref (h + 2), .ref h]
  refine g_put (k := 3) (T := TX7) (N := 8) (ty := (.array .int)) C zC7 (by decide) (by decide +kernel) (z_tw 247 (by decide +kernel)) rfl rfl rfl rfl (by show 3 < 8; decide) (Nat.le_of_ble_eq_true rfl) dX7_init_17 ?_
  show gW (D, ty, h) 7 1 7 p l e _ s m args below meth c _ 2 48 20 [.int 0, .int 0, .ref (h + 1), .ref (h + 2), .null, .null, .null, .null] (ZX7.tail.take 2) zM0 []
  refine g_aload0 C dX7_init_20 ?_
  refine g_bipush (v := 24) C (by decide) dX7_init_21 ?_
  refine g_newa (t := 0) (k := 24) (ty := .int) C rfl rfl (g_ra C (t := 0) rfl) (z_tw 63 (by decide +kernel)) (fun _ => rfl) (by decide) (by decide) (by decide) (Nat.le_of_ble_eq_true rfl) (Nat.le_of_ble_eq_true rfl) dX7_init_23 ?_
  show gW (D, ty, h) 7 1 7 p l e _ s m args below meth c _ 3 72 25 [.int 0, .int 0, .ref (h + 1), .ref (h + 2), .null, .null, .null, .null] (ZX7.tail.take 3) zM0 [.ref (h + 3), .ref h]
  refine g_put (k := 4) (T := TX7) (N := 8) (ty := (.array .int)) C zC7 (by decide) (by decide +kernel) (z_tw 248 (by decide +kernel)) rfl rfl rfl rfl (by show 4 < 8; decide) (Nat.le_of_ble_eq_true rfl) dX7_init_25 ?_
  show gW (D, ty, h) 7 1 7 p l e _ s m args below meth c _ 3 72 28 [.int 0, .int 0, .ref (h + 1), .ref (h + 2), .ref (h + 3), .null, .null, .null] (ZX7.tail.take 3) zM0 []
  refine g_aload0 C dX7_init_28 ?_
  refine g_bipush (v := 24) C (by decide) dX7_init_29 ?_
  refine g_newa (t := 0) (k := 24) (ty := .int) C rfl rfl (g_ra C (t := 0) rfl) (z_tw 63 (by decide +kernel)) (fun _ => rfl) (by decide) (by decide) (by decide) (Nat.le_of_ble_eq_true rfl) (Nat.le_of_ble_eq_true rfl) dX7_init_31 ?_
  show gW (D, ty, h) 7 1 7 p l e _ s m args below meth c _ 4 96 33 [.int 0, .int 0, .ref (h + 1), .ref (h + 2), .ref (h + 3), .null, .null, .null] (ZX7.tail.take 4) zM0 [.ref (h + 4), .ref h]
  refine g_put (k := 5) (T := TX7) (N := 8) (ty := (.array .int)) C zC7 (by decide) (by decide +kernel) (z_tw 249 (by decide +kernel)) rfl rfl rfl rfl (by show 5 < 8; decide) (Nat.le_of_ble_eq_true rfl) dX7_init_33 ?_
  show gW (D, ty, h) 7 1 7 p l e _ s m args below meth c _ 4 96 36 [.int 0, .int 0, .ref (h + 1), .ref (h + 2), .ref (h + 3), .ref (h + 4), .null, .null] (ZX7.tail.take 4) zM0 []
  refine g_aload0 C dX7_init_36 ?_
  refine g_bipush (v := 24) C (by decide) dX7_init_37 ?_
  refine g_newa (t := 0) (k := 24) (ty := .int) C rfl rfl (g_ra C (t := 0) rfl) (z_tw 63 (by decide +kernel)) (fun _ => rfl) (by decide) (by decide) (by decide) (Nat.le_of_ble_eq_true rfl) (Nat.le_of_ble_eq_true rfl) dX7_init_39 ?_
  show gW (D, ty, h) 7 1 7 p l e _ s m args below meth c _ 5 120 41 [.int 0, .int 0, .ref (h + 1), .ref (h + 2), .ref (h + 3), .ref (h + 4), .null, .null] (ZX7.tail.take 5) zM0 [.ref (h + 5), .ref h]
  refine g_put (k := 6) (T := TX7) (N := 8) (ty := (.array .int)) C zC7 (by decide) (by decide +kernel) (z_tw 250 (by decide +kernel)) rfl rfl rfl rfl (by show 6 < 8; decide) (Nat.le_of_ble_eq_true rfl) dX7_init_41 ?_
  show gW (D, ty, h) 7 1 7 p l e _ s m args below meth c _ 5 120 44 [.int 0, .int 0, .ref (h + 1), .ref (h + 2), .ref (h + 3), .ref (h + 4), .ref (h + 5), .null] (ZX7.tail.take 5) zM0 []
  refine g_aload0 C dX7_init_44 ?_
  refine g_bipush (v := 24) C (by decide) dX7_init_45 ?_
  refine g_newa (t := 0) (k := 24) (ty := .int) C rfl rfl (g_ra C (t := 0) rfl) (z_tw 63 (by decide +kernel)) (fun _ => rfl) (by decide) (by decide) (by decide) (Nat.le_of_ble_eq_true rfl) (Nat.le_of_ble_eq_true rfl) dX7_init_47 ?_
  show gW (D, ty, h) 7 1 7 p l e _ s m args below meth c _ 6 144 49 [.int 0, .int 0, .ref (h + 1), .ref (h + 2), .ref (h + 3), .ref (h + 4), .ref (h + 5), .null] (ZX7.tail.take 6) zM0 [.ref (h + 6), .ref h]
  refine g_put (k := 7) (T := TX7) (N := 8) (ty := (.array .int)) C zC7 (by decide) (by decide +kernel) (z_tw 251 (by decide +kernel)) rfl rfl rfl rfl (by show 7 < 8; decide) (Nat.le_of_ble_eq_true rfl) dX7_init_49 ?_
  show gW (D, ty, h) 7 1 7 p l e _ s m args below meth c _ 6 144 52 [.int 0, .int 0, .ref (h + 1), .ref (h + 2), .ref (h + 3), .ref (h + 4), .ref (h + 5), .ref (h + 6)] (ZX7.tail.take 6) zM0 []
  refine g_tail (d := dd + 1) (n := 7) C (KK_met l (D, ty, h, ZX7) (fun _ _ _ => .null) ZX7_5 (dd + 1)) rfl rfl (zw_X7 D ty h) (ct_X7 (D, ty, h, ZX7) (dd + 1) _ ZX7_5) hP
def ZX8 : List ZD := [.inl (8, [none, some (some 1)]),
  .inr (0, 12, 0)]
theorem ZX8_5 : zt5 ZX8 := z5_of (by decide +kernel)
theorem dX8_init_0 : decode cX8_init 0 = .ok (.aload_n 0, 1) := by decide +kernel
theorem dX8_init_1 : decode cX8_init 1 = .ok (.invokespecial 3, 3) := by decide +kernel
theorem dX8_init_4 : decode cX8_init 4 = .ok (.aload_n 0, 1) := by decide +kernel
theorem dX8_init_5 : decode cX8_init 5 = .ok (.bipush 12, 2) := by decide +kernel
theorem dX8_init_7 : decode cX8_init 7 = .ok (.newarray .int, 2) := by decide +kernel
theorem dX8_init_9 : decode cX8_init 9 = .ok (.putfield 9, 3) := by decide +kernel
theorem dX8_init_12 : decode cX8_init 12 = .ok (.return_, 1) := by decide +kernel
def tl_X8 (Z : List ZD) (K : ZKt) : ZSt := sRetV
theorem ct_X8 (G : ZG) (d : Nat) (K : ZKt) (hT : zt5 G.2.2.2) : CS G RX8 cX8_init 1 d K none [] (fun _ => []) 12 (tl_X8 G.2.2.2 K) := by
  unfold tl_X8
  exact CS.retV dX8_init_12
theorem zw_X8 (D : va_G) (ty : Nat → ClassId) (h : Nat) : zgw (D, ty, h) 8 [.int 0, .ref (h + 1)] (ZX8.tail.take 1) zM0 = zw (D, ty, h, ZX8) zM0 := zgw_zw (fr := [none, some (some 1)]) (by rfl)
set_option maxRecDepth 20000 in
theorem in_X8 (l : Launch) (D : va_G) (ty : Nat → ClassId) (h dd : Nat) {P : ZM → Prop} (hP : tl_X8 ZX8 (KK ZX8 (fun _ _ _ => .null) (dd + 1)) ([.ref 0], zM0) (fun _ => False) (zNP P) (fun _ _ => False)) : ZN l (D, ty, h, ZX8) (dd + 1 + 1) 8 [.int 0, .null] (yX8_init, cX8_init, 1, none) 1 12 P := by
  refine ZN.of (by decide +kernel) rfl rfl (by decide) ?_
  intro p e s m args below meth c C hO hsz
  refine g_aload0 C dX8_init_0 ?_
  refine g_obj C (z_tw 400 (by decide +kernel)) (z_tw 24 (by decide +kernel)) (z_tw 25 (by decide +kernel)) ⟨by show 1 ≤ dd + 1 + 1; omega, by show 12 ≤ 40 * (dd + 1 + 1); omega⟩ dX8_init_1 ?_
  refine g_aload0 C dX8_init_4 ?_
  refine g_bipush (v := 12) C (by decide) dX8_init_5 ?_
  refine g_newa (t := 0) (k := 12) (ty := .int) C rfl rfl (g_ra C (t := 0) rfl) (z_tw 63 (by decide +kernel)) (fun _ => rfl) (by decide) (by decide) (by decide) (Nat.le_of_ble_eq_true rfl) (Nat.le_of_ble_eq_true rfl) dX8_init_7 ?_
  show gW (D, ty, h) 2 1 8 p l e _ s m args below meth c _ 1 12 9 [.int 0, .null] (ZX8.tail.take 1) zM0 [.ref (h + 1), .ref h]
  refine g_put (k := 1) (T := TX8) (N := 2) (ty := (.array .int)) C zC8 (by decide) (by decide +kernel) (z_tw 403 (by decide +kernel)) rfl rfl rfl rfl (by show 1 < 2; decide) (Nat.le_of_ble_eq_true rfl) dX8_init_9 ?_
  show gW (D, ty, h) 2 1 8 p l e _ s m args below meth c _ 1 12 12 [.int 0, .ref (h + 1)] (ZX8.tail.take 1) zM0 []
  refine g_tail (d := dd + 1) (n := 2) C (KK_met l (D, ty, h, ZX8) (fun _ _ _ => .null) ZX8_5 (dd + 1)) rfl rfl (zw_X8 D ty h) (ct_X8 (D, ty, h, ZX8) (dd + 1) _ ZX8_5) hP
def ZX9 : List ZD := [.inl (9, [some (some 1), some (some 2), some (some 7), some (some 12), some (some 13)]),
  .inr (0, 4, 0),
  .inr (4, 4, 3),
  .inr (0, 8, 0),
  .inr (0, 8, 0),
  .inr (0, 8, 0),
  .inr (0, 8, 0),
  .inr (4, 4, 8),
  .inr (0, 8, 0),
  .inr (0, 8, 0),
  .inr (0, 8, 0),
  .inr (0, 8, 0),
  .inr (0, 4, 0),
  .inr (4, 4, 14),
  .inr (0, 16, 0),
  .inr (0, 16, 0),
  .inr (0, 16, 0),
  .inr (0, 16, 0)]
theorem ZX9_5 : zt5 ZX9 := z5_of (by decide +kernel)
theorem dX9_init_0 : decode cX9_init 0 = .ok (.aload_n 0, 1) := by decide +kernel
theorem dX9_init_1 : decode cX9_init 1 = .ok (.invokespecial 3, 3) := by decide +kernel
theorem dX9_init_4 : decode cX9_init 4 = .ok (.aload_n 0, 1) := by decide +kernel
theorem dX9_init_5 : decode cX9_init 5 = .ok (.iconst 4, 1) := by decide +kernel
theorem dX9_init_6 : decode cX9_init 6 = .ok (.newarray .int, 2) := by decide +kernel
theorem dX9_init_8 : decode cX9_init 8 = .ok (.putfield 9, 3) := by decide +kernel
theorem dX9_init_11 : decode cX9_init 11 = .ok (.aload_n 0, 1) := by decide +kernel
theorem dX9_init_12 : decode cX9_init 12 = .ok (.iconst 4, 1) := by decide +kernel
theorem dX9_init_13 : decode cX9_init 13 = .ok (.bipush 8, 2) := by decide +kernel
theorem dX9_init_15 : decode cX9_init 15 = .ok (.multianewarray 15 2, 4) := by decide +kernel
theorem dX9_init_19 : decode cX9_init 19 = .ok (.putfield 17, 3) := by decide +kernel
theorem dX9_init_22 : decode cX9_init 22 = .ok (.aload_n 0, 1) := by decide +kernel
theorem dX9_init_23 : decode cX9_init 23 = .ok (.iconst 4, 1) := by decide +kernel
theorem dX9_init_24 : decode cX9_init 24 = .ok (.bipush 8, 2) := by decide +kernel
theorem dX9_init_26 : decode cX9_init 26 = .ok (.multianewarray 15 2, 4) := by decide +kernel
theorem dX9_init_30 : decode cX9_init 30 = .ok (.putfield 20, 3) := by decide +kernel
theorem dX9_init_33 : decode cX9_init 33 = .ok (.aload_n 0, 1) := by decide +kernel
theorem dX9_init_34 : decode cX9_init 34 = .ok (.iconst 4, 1) := by decide +kernel
theorem dX9_init_35 : decode cX9_init 35 = .ok (.newarray .int, 2) := by decide +kernel
theorem dX9_init_37 : decode cX9_init 37 = .ok (.putfield 23, 3) := by decide +kernel
theorem dX9_init_40 : decode cX9_init 40 = .ok (.aload_n 0, 1) := by decide +kernel
theorem dX9_init_41 : decode cX9_init 41 = .ok (.iconst 4, 1) := by decide +kernel
theorem dX9_init_42 : decode cX9_init 42 = .ok (.bipush 16, 2) := by decide +kernel
theorem dX9_init_44 : decode cX9_init 44 = .ok (.multianewarray 15 2, 4) := by decide +kernel
theorem dX9_init_48 : decode cX9_init 48 = .ok (.putfield 26, 3) := by decide +kernel
theorem dX9_init_51 : decode cX9_init 51 = .ok (.aload_n 0, 1) := by decide +kernel
theorem dX9_init_52 : decode cX9_init 52 = .ok (.getfield 9, 3) := by decide +kernel
theorem dX9_init_55 : decode cX9_init 55 = .ok (.bipush 8, 2) := by decide +kernel
theorem dX9_init_57 : decode cX9_init 57 = .ok (.invokestatic 29, 3) := by decide +kernel
theorem dX9_init_60 : decode cX9_init 60 = .ok (.return_, 1) := by decide +kernel
def tl_X9 (Z : List ZD) (K : ZKt) : ZSt := (sSeq (sCS K 219 (aR (eFR Z 9 0 (eR 0)) (aI (eK (8 : Int32)) aN))) sRetV)
theorem ct_X9 (G : ZG) (d : Nat) (K : ZKt) (hT : zt5 G.2.2.2) : CS G RX9 cX9_init 1 d K none [] (fun _ => []) 51 (tl_X9 G.2.2.2 K) := by
  unfold tl_X9
  exact (CS.seq 60 (CS.callS (CA.ref (CE.getR (CE.aload_n rfl dX9_init_51 zhd) fs_X9_9 dX9_init_52 zhd) (CA.int (CE.bipush kB_8 dX9_init_55 zhd) CA.nil)) zi_219 cs_X9_29 (fun _ => rfl) dX9_init_57 zhd) (CS.retV dX9_init_60))
theorem zw_X9 (D : va_G) (ty : Nat → ClassId) (h : Nat) : zgw (D, ty, h) 9 [.ref (h + 1), .ref (h + 2), .ref (h + 7), .ref (h + 12), .ref (h + 13)] (ZX9.tail.take 17) zM0 = zw (D, ty, h, ZX9) zM0 := zgw_zw (fr := [some (some 1), some (some 2), some (some 7), some (some 12), some (some 13)]) (by rfl)
set_option maxRecDepth 20000 in
theorem in_X9 (l : Launch) (D : va_G) (ty : Nat → ClassId) (h dd : Nat) {P : ZM → Prop} (hP : tl_X9 ZX9 (KK ZX9 (fun _ _ _ => .null) (dd + 1)) ([.ref 0], zM0) (fun _ => False) (zNP P) (fun _ _ => False)) : ZN l (D, ty, h, ZX9) (dd + 1 + 1) 9 [.null, .null, .null, .null, .null] (yX9_init, cX9_init, 1, none) 17 148 P := by
  refine ZN.of (by decide +kernel) rfl rfl (by decide) ?_
  intro p e s m args below meth c C hO hsz
  refine g_aload0 C dX9_init_0 ?_
  refine g_obj C (z_tw 309 (by decide +kernel)) (z_tw 24 (by decide +kernel)) (z_tw 25 (by decide +kernel)) ⟨by show 1 ≤ dd + 1 + 1; omega, by show 12 ≤ 40 * (dd + 1 + 1); omega⟩ dX9_init_1 ?_
  refine g_aload0 C dX9_init_4 ?_
  refine g_iconst (v := 4) C (by decide) dX9_init_5 ?_
  refine g_newa (t := 0) (k := 4) (ty := .int) C rfl rfl (g_ra C (t := 0) rfl) (z_tw 63 (by decide +kernel)) (fun _ => rfl) (by decide) (by decide) (by decide) (Nat.le_of_ble_eq_true rfl) (Nat.le_of_ble_eq_true rfl) dX9_init_6 ?_
  show gW (D, ty, h) 18 1 9 p l e _ s m args below meth c _ 1 4 8 [.null, .null, .null, .null, .null] (ZX9.tail.take 1) zM0 [.ref (h + 1), .ref h]
  refine g_put (k := 0) (T := TX9) (N := 5) (ty := (.array .int)) C zC9 (by decide) (by decide +kernel) (z_tw 312 (by decide +kernel)) rfl rfl rfl rfl (by show 0 < 5; decide) (Nat.le_of_ble_eq_true rfl) dX9_init_8 ?_
  show gW (D, ty, h) 18 1 9 p l e _ s m args below meth c _ 1 4 11 [.ref (h + 1), .null, .null, .null, .null] (ZX9.tail.take 1) zM0 []
  refine g_aload0 C dX9_init_11 ?_
  refine g_iconst (v := 4) C (by decide) dX9_init_12 ?_
  refine g_bipush (v := 8) C (by decide) dX9_init_13 ?_
  refine g_mna (N := 4) (K := 8) C (z_tw 310 (by decide +kernel)) (zOv.args hO _) (z_tw 63 (by decide +kernel)) (g_ra C (t := 0) rfl) (g_ra C (t := 4) rfl) (by decide) (by decide) (by decide) (by decide) (by decide) (fun _ _ => rfl) (Nat.le_of_ble_eq_true rfl) (Nat.le_of_ble_eq_true rfl) dX9_init_15 ?_
  show gW (D, ty, h) 18 1 9 p l e _ s m args below meth c _ 6 40 19 [.ref (h + 1), .null, .null, .null, .null] (ZX9.tail.take 6) zM0 [.ref (h + 2), .ref h]
  refine g_put (k := 1) (T := TX9) (N := 5) (ty := (.array (.array .int))) C zC9 (by decide) (by decide +kernel) (z_tw 315 (by decide +kernel)) rfl rfl rfl rfl (by show 1 < 5; decide) (Nat.le_of_ble_eq_true rfl) dX9_init_19 ?_
  show gW (D, ty, h) 18 1 9 p l e _ s m args below meth c _ 6 40 22 [.ref (h + 1), .ref (h + 2), .null, .null, .null] (ZX9.tail.take 6) zM0 []
  refine g_aload0 C dX9_init_22 ?_
  refine g_iconst (v := 4) C (by decide) dX9_init_23 ?_
  refine g_bipush (v := 8) C (by decide) dX9_init_24 ?_
  refine g_mna (N := 4) (K := 8) C (z_tw 310 (by decide +kernel)) (zOv.args hO _) (z_tw 63 (by decide +kernel)) (g_ra C (t := 0) rfl) (g_ra C (t := 4) rfl) (by decide) (by decide) (by decide) (by decide) (by decide) (fun _ _ => rfl) (Nat.le_of_ble_eq_true rfl) (Nat.le_of_ble_eq_true rfl) dX9_init_26 ?_
  show gW (D, ty, h) 18 1 9 p l e _ s m args below meth c _ 11 76 30 [.ref (h + 1), .ref (h + 2), .null, .null, .null] (ZX9.tail.take 11) zM0 [.ref (h + 7), .ref h]
  refine g_put (k := 2) (T := TX9) (N := 5) (ty := (.array (.array .int))) C zC9 (by decide) (by decide +kernel) (z_tw 318 (by decide +kernel)) rfl rfl rfl rfl (by show 2 < 5; decide) (Nat.le_of_ble_eq_true rfl) dX9_init_30 ?_
  show gW (D, ty, h) 18 1 9 p l e _ s m args below meth c _ 11 76 33 [.ref (h + 1), .ref (h + 2), .ref (h + 7), .null, .null] (ZX9.tail.take 11) zM0 []
  refine g_aload0 C dX9_init_33 ?_
  refine g_iconst (v := 4) C (by decide) dX9_init_34 ?_
  refine g_newa (t := 0) (k := 4) (ty := .int) C rfl rfl (g_ra C (t := 0) rfl) (z_tw 63 (by decide +kernel)) (fun _ => rfl) (by decide) (by decide) (by decide) (Nat.le_of_ble_eq_true rfl) (Nat.le_of_ble_eq_true rfl) dX9_init_35 ?_
  show gW (D, ty, h) 18 1 9 p l e _ s m args below meth c _ 12 80 37 [.ref (h + 1), .ref (h + 2), .ref (h + 7), .null, .null] (ZX9.tail.take 12) zM0 [.ref (h + 12), .ref h]
  refine g_put (k := 3) (T := TX9) (N := 5) (ty := (.array .int)) C zC9 (by decide) (by decide +kernel) (z_tw 321 (by decide +kernel)) rfl rfl rfl rfl (by show 3 < 5; decide) (Nat.le_of_ble_eq_true rfl) dX9_init_37 ?_
  show gW (D, ty, h) 18 1 9 p l e _ s m args below meth c _ 12 80 40 [.ref (h + 1), .ref (h + 2), .ref (h + 7), .ref (h + 12), .null] (ZX9.tail.take 12) zM0 []
  refine g_aload0 C dX9_init_40 ?_
  refine g_iconst (v := 4) C (by decide) dX9_init_41 ?_
  refine g_bipush (v := 16) C (by decide) dX9_init_42 ?_
  refine g_mna (N := 4) (K := 16) C (z_tw 310 (by decide +kernel)) (zOv.args hO _) (z_tw 63 (by decide +kernel)) (g_ra C (t := 0) rfl) (g_ra C (t := 4) rfl) (by decide) (by decide) (by decide) (by decide) (by decide) (fun _ _ => rfl) (Nat.le_of_ble_eq_true rfl) (Nat.le_of_ble_eq_true rfl) dX9_init_44 ?_
  show gW (D, ty, h) 18 1 9 p l e _ s m args below meth c _ 17 148 48 [.ref (h + 1), .ref (h + 2), .ref (h + 7), .ref (h + 12), .null] (ZX9.tail.take 17) zM0 [.ref (h + 13), .ref h]
  refine g_put (k := 4) (T := TX9) (N := 5) (ty := (.array (.array .int))) C zC9 (by decide) (by decide +kernel) (z_tw 323 (by decide +kernel)) rfl rfl rfl rfl (by show 4 < 5; decide) (Nat.le_of_ble_eq_true rfl) dX9_init_48 ?_
  show gW (D, ty, h) 18 1 9 p l e _ s m args below meth c _ 17 148 51 [.ref (h + 1), .ref (h + 2), .ref (h + 7), .ref (h + 12), .ref (h + 13)] (ZX9.tail.take 17) zM0 []
  refine g_tail (d := dd + 1) (n := 18) C (KK_met l (D, ty, h, ZX9) (fun _ _ _ => .null) ZX9_5 (dd + 1)) rfl rfl (zw_X9 D ty h) (ct_X9 (D, ty, h, ZX9) (dd + 1) _ ZX9_5) hP
def ZX10 : List ZD := [.inl (10, [none, none, some (some 1), some (some 2), some (some 3), some (some 4), some (some 29), some (some 54), some (some 55)]),
  .inr (0, 24, 0),
  .inr (0, 24, 0),
  .inr (0, 24, 0),
  .inr (4, 24, 5),
  .inr (0, 3, 0),
  .inr (0, 3, 0),
  .inr (0, 3, 0),
  .inr (0, 3, 0),
  .inr (0, 3, 0),
  .inr (0, 3, 0),
  .inr (0, 3, 0),
  .inr (0, 3, 0),
  .inr (0, 3, 0),
  .inr (0, 3, 0),
  .inr (0, 3, 0),
  .inr (0, 3, 0),
  .inr (0, 3, 0),
  .inr (0, 3, 0),
  .inr (0, 3, 0),
  .inr (0, 3, 0),
  .inr (0, 3, 0),
  .inr (0, 3, 0),
  .inr (0, 3, 0),
  .inr (0, 3, 0),
  .inr (0, 3, 0),
  .inr (0, 3, 0),
  .inr (0, 3, 0),
  .inr (0, 3, 0),
  .inr (4, 24, 30),
  .inr (0, 3, 0),
  .inr (0, 3, 0),
  .inr (0, 3, 0),
  .inr (0, 3, 0),
  .inr (0, 3, 0),
  .inr (0, 3, 0),
  .inr (0, 3, 0),
  .inr (0, 3, 0),
  .inr (0, 3, 0),
  .inr (0, 3, 0),
  .inr (0, 3, 0),
  .inr (0, 3, 0),
  .inr (0, 3, 0),
  .inr (0, 3, 0),
  .inr (0, 3, 0),
  .inr (0, 3, 0),
  .inr (0, 3, 0),
  .inr (0, 3, 0),
  .inr (0, 3, 0),
  .inr (0, 3, 0),
  .inr (0, 3, 0),
  .inr (0, 3, 0),
  .inr (0, 3, 0),
  .inr (0, 3, 0),
  .inr (0, 24, 0),
  .inr (0, 24, 0)]
theorem ZX10_5 : zt5 ZX10 := z5_of (by decide +kernel)
theorem dX10_init_0 : decode cX10_init 0 = .ok (.aload_n 0, 1) := by decide +kernel
theorem dX10_init_1 : decode cX10_init 1 = .ok (.invokespecial 3, 3) := by decide +kernel
theorem dX10_init_4 : decode cX10_init 4 = .ok (.aload_n 0, 1) := by decide +kernel
theorem dX10_init_5 : decode cX10_init 5 = .ok (.bipush 24, 2) := by decide +kernel
theorem dX10_init_7 : decode cX10_init 7 = .ok (.newarray .int, 2) := by decide +kernel
theorem dX10_init_9 : decode cX10_init 9 = .ok (.putfield 9, 3) := by decide +kernel
theorem dX10_init_12 : decode cX10_init 12 = .ok (.aload_n 0, 1) := by decide +kernel
theorem dX10_init_13 : decode cX10_init 13 = .ok (.bipush 24, 2) := by decide +kernel
theorem dX10_init_15 : decode cX10_init 15 = .ok (.newarray .int, 2) := by decide +kernel
theorem dX10_init_17 : decode cX10_init 17 = .ok (.putfield 15, 3) := by decide +kernel
theorem dX10_init_20 : decode cX10_init 20 = .ok (.aload_n 0, 1) := by decide +kernel
theorem dX10_init_21 : decode cX10_init 21 = .ok (.bipush 24, 2) := by decide +kernel
theorem dX10_init_23 : decode cX10_init 23 = .ok (.newarray .int, 2) := by decide +kernel
theorem dX10_init_25 : decode cX10_init 25 = .ok (.putfield 18, 3) := by decide +kernel
theorem dX10_init_28 : decode cX10_init 28 = .ok (.aload_n 0, 1) := by decide +kernel
theorem dX10_init_29 : decode cX10_init 29 = .ok (.bipush 24, 2) := by decide +kernel
theorem dX10_init_31 : decode cX10_init 31 = .ok (.iconst 3, 1) := by decide +kernel
theorem dX10_init_32 : decode cX10_init 32 = .ok (.multianewarray 21 2, 4) := by decide +kernel
theorem dX10_init_36 : decode cX10_init 36 = .ok (.putfield 23, 3) := by decide +kernel
theorem dX10_init_39 : decode cX10_init 39 = .ok (.aload_n 0, 1) := by decide +kernel
theorem dX10_init_40 : decode cX10_init 40 = .ok (.bipush 24, 2) := by decide +kernel
theorem dX10_init_42 : decode cX10_init 42 = .ok (.iconst 3, 1) := by decide +kernel
theorem dX10_init_43 : decode cX10_init 43 = .ok (.multianewarray 21 2, 4) := by decide +kernel
theorem dX10_init_47 : decode cX10_init 47 = .ok (.putfield 26, 3) := by decide +kernel
theorem dX10_init_50 : decode cX10_init 50 = .ok (.aload_n 0, 1) := by decide +kernel
theorem dX10_init_51 : decode cX10_init 51 = .ok (.bipush 24, 2) := by decide +kernel
theorem dX10_init_53 : decode cX10_init 53 = .ok (.newarray .int, 2) := by decide +kernel
theorem dX10_init_55 : decode cX10_init 55 = .ok (.putfield 29, 3) := by decide +kernel
theorem dX10_init_58 : decode cX10_init 58 = .ok (.aload_n 0, 1) := by decide +kernel
theorem dX10_init_59 : decode cX10_init 59 = .ok (.bipush 24, 2) := by decide +kernel
theorem dX10_init_61 : decode cX10_init 61 = .ok (.newarray .int, 2) := by decide +kernel
theorem dX10_init_63 : decode cX10_init 63 = .ok (.putfield 32, 3) := by decide +kernel
theorem dX10_init_66 : decode cX10_init 66 = .ok (.return_, 1) := by decide +kernel
def tl_X10 (Z : List ZD) (K : ZKt) : ZSt := sRetV
theorem ct_X10 (G : ZG) (d : Nat) (K : ZKt) (hT : zt5 G.2.2.2) : CS G RX10 cX10_init 1 d K none [] (fun _ => []) 66 (tl_X10 G.2.2.2 K) := by
  unfold tl_X10
  exact CS.retV dX10_init_66
theorem zw_X10 (D : va_G) (ty : Nat → ClassId) (h : Nat) : zgw (D, ty, h) 10 [.int 0, .int 0, .ref (h + 1), .ref (h + 2), .ref (h + 3), .ref (h + 4), .ref (h + 29), .ref (h + 54), .ref (h + 55)] (ZX10.tail.take 55) zM0 = zw (D, ty, h, ZX10) zM0 := zgw_zw (fr := [none, none, some (some 1), some (some 2), some (some 3), some (some 4), some (some 29), some (some 54), some (some 55)]) (by rfl)
set_option maxRecDepth 20000 in
theorem in_X10 (l : Launch) (D : va_G) (ty : Nat → ClassId) (h dd : Nat) {P : ZM → Prop} (hP : tl_X10 ZX10 (KK ZX10 (fun _ _ _ => .null) (dd + 1)) ([.ref 0], zM0) (fun _ => False) (zNP P) (fun _ _ => False)) : ZN l (D, ty, h, ZX10) (dd + 1 + 1) 10 [.int 0, .int 0, .null, .null, .null, .null, .null, .null, .null] (yX10_init, cX10_init, 1, none) 55 312 P := by
  refine ZN.of (by decide +kernel) rfl rfl (by decide) ?_
  intro p e s m args below meth c C hO hsz
  refine g_aload0 C dX10_init_0 ?_
  refine g_obj C (z_tw 194 (by decide +kernel)) (z_tw 24 (by decide +kernel)) (z_tw 25 (by decide +kernel)) ⟨by show 1 ≤ dd + 1 + 1; omega, by show 12 ≤ 40 * (dd + 1 + 1); omega⟩ dX10_init_1 ?_
  refine g_aload0 C dX10_init_4 ?_
  refine g_bipush (v := 24) C (by decide) dX10_init_5 ?_
  refine g_newa (t := 0) (k := 24) (ty := .int) C rfl rfl (g_ra C (t := 0) rfl) (z_tw 63 (by decide +kernel)) (fun _ => rfl) (by decide) (by decide) (by decide) (Nat.le_of_ble_eq_true rfl) (Nat.le_of_ble_eq_true rfl) dX10_init_7 ?_
  show gW (D, ty, h) 56 1 10 p l e _ s m args below meth c _ 1 24 9 [.int 0, .int 0, .null, .null, .null, .null, .null, .null, .null] (ZX10.tail.take 1) zM0 [.ref (h + 1), .ref h]
  refine g_put (k := 2) (T := TX10) (N := 9) (ty := (.array .int)) C zC10 (by decide) (by decide +kernel) (z_tw 202 (by decide +kernel)) rfl rfl rfl rfl (by show 2 < 9; decide) (Nat.le_of_ble_eq_true rfl) dX10_init_9 ?_
  show gW (D, ty, h) 56 1 10 p l e _ s m args below meth c _ 1 24 12 [.int 0, .int 0, .ref (h + 1), .null, .null, .null, .null, .null, .null] (ZX10.tail.take 1) zM0 []
  refine g_aload0 C dX10_init_12 ?_
  refine g_bipush (v := 24) C (by decide) dX10_init_13 ?_
  refine g_newa (t := 0) (k := 24) (ty := .int) C rfl rfl (g_ra C (t := 0) rfl) (z_tw 63 (by decide +kernel)) (fun _ => rfl) (by decide) (by decide) (by decide) (Nat.le_of_ble_eq_true rfl) (Nat.le_of_ble_eq_true rfl) dX10_init_15 ?_
  show gW (D, ty, h) 56 1 10 p l e _ s m args below meth c _ 2 48 17 [.int 0, .int 0, .ref (h + 1), .null, .null, .null, .null, .null, .null] (ZX10.tail.take 2) zM0 [.ref (h + 2), .ref h]
  refine g_put (k := 3) (T := TX10) (N := 9) (ty := (.array .int)) C zC10 (by decide) (by decide +kernel) (z_tw 205 (by decide +kernel)) rfl rfl rfl rfl (by show 3 < 9; decide) (Nat.le_of_ble_eq_true rfl) dX10_init_17 ?_
  show gW (D, ty, h) 56 1 10 p l e _ s m args below meth c _ 2 48 20 [.int 0, .int 0, .ref (h + 1), .ref (h + 2), .null, .null, .null, .null, .null] (ZX10.tail.take 2) zM0 []
  refine g_aload0 C dX10_init_20 ?_
  refine g_bipush (v := 24) C (by decide) dX10_init_21 ?_
  refine g_newa (t := 0) (k := 24) (ty := .int) C rfl rfl (g_ra C (t := 0) rfl) (z_tw 63 (by decide +kernel)) (fun _ => rfl) (by decide) (by decide) (by decide) (Nat.le_of_ble_eq_true rfl) (Nat.le_of_ble_eq_true rfl) dX10_init_23 ?_
  show gW (D, ty, h) 56 1 10 p l e _ s m args below meth c _ 3 72 25 [.int 0, .int 0, .ref (h + 1), .ref (h + 2), .null, .null, .null, .null, .null] (ZX10.tail.take 3) zM0 [.ref (h + 3), .ref h]
  refine g_put (k := 4) (T := TX10) (N := 9) (ty := (.array .int)) C zC10 (by decide) (by decide +kernel) (z_tw 207 (by decide +kernel)) rfl rfl rfl rfl (by show 4 < 9; decide) (Nat.le_of_ble_eq_true rfl) dX10_init_25 ?_
  show gW (D, ty, h) 56 1 10 p l e _ s m args below meth c _ 3 72 28 [.int 0, .int 0, .ref (h + 1), .ref (h + 2), .ref (h + 3), .null, .null, .null, .null] (ZX10.tail.take 3) zM0 []
  refine g_aload0 C dX10_init_28 ?_
  refine g_bipush (v := 24) C (by decide) dX10_init_29 ?_
  refine g_iconst (v := 3) C (by decide) dX10_init_31 ?_
  refine g_mna (N := 24) (K := 3) C (z_tw 195 (by decide +kernel)) (zOv.args hO _) (z_tw 63 (by decide +kernel)) (g_ra C (t := 0) rfl) (g_ra C (t := 4) rfl) (by decide) (by decide) (by decide) (by decide) (by decide) (fun _ _ => rfl) (Nat.le_of_ble_eq_true rfl) (Nat.le_of_ble_eq_true rfl) dX10_init_32 ?_
  show gW (D, ty, h) 56 1 10 p l e _ s m args below meth c _ 28 168 36 [.int 0, .int 0, .ref (h + 1), .ref (h + 2), .ref (h + 3), .null, .null, .null, .null] (ZX10.tail.take 28) zM0 [.ref (h + 4), .ref h]
  refine g_put (k := 5) (T := TX10) (N := 9) (ty := (.array (.array .int))) C zC10 (by decide) (by decide +kernel) (z_tw 209 (by decide +kernel)) rfl rfl rfl rfl (by show 5 < 9; decide) (Nat.le_of_ble_eq_true rfl) dX10_init_36 ?_
  show gW (D, ty, h) 56 1 10 p l e _ s m args below meth c _ 28 168 39 [.int 0, .int 0, .ref (h + 1), .ref (h + 2), .ref (h + 3), .ref (h + 4), .null, .null, .null] (ZX10.tail.take 28) zM0 []
  refine g_aload0 C dX10_init_39 ?_
  refine g_bipush (v := 24) C (by decide) dX10_init_40 ?_
  refine g_iconst (v := 3) C (by decide) dX10_init_42 ?_
  refine g_mna (N := 24) (K := 3) C (z_tw 195 (by decide +kernel)) (zOv.args hO _) (z_tw 63 (by decide +kernel)) (g_ra C (t := 0) rfl) (g_ra C (t := 4) rfl) (by decide) (by decide) (by decide) (by decide) (by decide) (fun _ _ => rfl) (Nat.le_of_ble_eq_true rfl) (Nat.le_of_ble_eq_true rfl) dX10_init_43 ?_
  show gW (D, ty, h) 56 1 10 p l e _ s m args below meth c _ 53 264 47 [.int 0, .int 0, .ref (h + 1), .ref (h + 2), .ref (h + 3), .ref (h + 4), .null, .null, .null] (ZX10.tail.take 53) zM0 [.ref (h + 29), .ref h]
  refine g_put (k := 6) (T := TX10) (N := 9) (ty := (.array (.array .int))) C zC10 (by decide) (by decide +kernel) (z_tw 210 (by decide +kernel)) rfl rfl rfl rfl (by show 6 < 9; decide) (Nat.le_of_ble_eq_true rfl) dX10_init_47 ?_
  show gW (D, ty, h) 56 1 10 p l e _ s m args below meth c _ 53 264 50 [.int 0, .int 0, .ref (h + 1), .ref (h + 2), .ref (h + 3), .ref (h + 4), .ref (h + 29), .null, .null] (ZX10.tail.take 53) zM0 []
  refine g_aload0 C dX10_init_50 ?_
  refine g_bipush (v := 24) C (by decide) dX10_init_51 ?_
  refine g_newa (t := 0) (k := 24) (ty := .int) C rfl rfl (g_ra C (t := 0) rfl) (z_tw 63 (by decide +kernel)) (fun _ => rfl) (by decide) (by decide) (by decide) (Nat.le_of_ble_eq_true rfl) (Nat.le_of_ble_eq_true rfl) dX10_init_53 ?_
  show gW (D, ty, h) 56 1 10 p l e _ s m args below meth c _ 54 288 55 [.int 0, .int 0, .ref (h + 1), .ref (h + 2), .ref (h + 3), .ref (h + 4), .ref (h + 29), .null, .null] (ZX10.tail.take 54) zM0 [.ref (h + 54), .ref h]
  refine g_put (k := 7) (T := TX10) (N := 9) (ty := (.array .int)) C zC10 (by decide) (by decide +kernel) (z_tw 211 (by decide +kernel)) rfl rfl rfl rfl (by show 7 < 9; decide) (Nat.le_of_ble_eq_true rfl) dX10_init_55 ?_
  show gW (D, ty, h) 56 1 10 p l e _ s m args below meth c _ 54 288 58 [.int 0, .int 0, .ref (h + 1), .ref (h + 2), .ref (h + 3), .ref (h + 4), .ref (h + 29), .ref (h + 54), .null] (ZX10.tail.take 54) zM0 []
  refine g_aload0 C dX10_init_58 ?_
  refine g_bipush (v := 24) C (by decide) dX10_init_59 ?_
  refine g_newa (t := 0) (k := 24) (ty := .int) C rfl rfl (g_ra C (t := 0) rfl) (z_tw 63 (by decide +kernel)) (fun _ => rfl) (by decide) (by decide) (by decide) (Nat.le_of_ble_eq_true rfl) (Nat.le_of_ble_eq_true rfl) dX10_init_61 ?_
  show gW (D, ty, h) 56 1 10 p l e _ s m args below meth c _ 55 312 63 [.int 0, .int 0, .ref (h + 1), .ref (h + 2), .ref (h + 3), .ref (h + 4), .ref (h + 29), .ref (h + 54), .null] (ZX10.tail.take 55) zM0 [.ref (h + 55), .ref h]
  refine g_put (k := 8) (T := TX10) (N := 9) (ty := (.array .int)) C zC10 (by decide) (by decide +kernel) (z_tw 215 (by decide +kernel)) rfl rfl rfl rfl (by show 8 < 9; decide) (Nat.le_of_ble_eq_true rfl) dX10_init_63 ?_
  show gW (D, ty, h) 56 1 10 p l e _ s m args below meth c _ 55 312 66 [.int 0, .int 0, .ref (h + 1), .ref (h + 2), .ref (h + 3), .ref (h + 4), .ref (h + 29), .ref (h + 54), .ref (h + 55)] (ZX10.tail.take 55) zM0 []
  refine g_tail (d := dd + 1) (n := 56) C (KK_met l (D, ty, h, ZX10) (fun _ _ _ => .null) ZX10_5 (dd + 1)) rfl rfl (zw_X10 D ty h) (ct_X10 (D, ty, h, ZX10) (dd + 1) _ ZX10_5) hP
theorem dX12_init_0 : decode cX12_init 0 = .ok (.aload_n 0, 1) := by decide +kernel
theorem dX12_init_1 : decode cX12_init 1 = .ok (.invokespecial 1, 3) := by decide +kernel
theorem dX12_init_4 : decode cX12_init 4 = .ok (.aload_n 0, 1) := by decide +kernel
theorem dX12_init_5 : decode cX12_init 5 = .ok (.bipush 8, 2) := by decide +kernel
theorem dX12_init_7 : decode cX12_init 7 = .ok (.newarray .int, 2) := by decide +kernel
theorem dX12_init_9 : decode cX12_init 9 = .ok (.putfield 7, 3) := by decide +kernel
theorem dX12_init_12 : decode cX12_init 12 = .ok (.aload_n 0, 1) := by decide +kernel
theorem dX12_init_13 : decode cX12_init 13 = .ok (.bipush 8, 2) := by decide +kernel
theorem dX12_init_15 : decode cX12_init 15 = .ok (.newarray .int, 2) := by decide +kernel
theorem dX12_init_17 : decode cX12_init 17 = .ok (.putfield 13, 3) := by decide +kernel
theorem dX12_init_20 : decode cX12_init 20 = .ok (.aload_n 0, 1) := by decide +kernel
theorem dX12_init_21 : decode cX12_init 21 = .ok (.bipush 8, 2) := by decide +kernel
theorem dX12_init_23 : decode cX12_init 23 = .ok (.newarray .int, 2) := by decide +kernel
theorem dX12_init_25 : decode cX12_init 25 = .ok (.putfield 16, 3) := by decide +kernel
theorem dX12_init_28 : decode cX12_init 28 = .ok (.aload_n 0, 1) := by decide +kernel
theorem dX12_init_29 : decode cX12_init 29 = .ok (.iconst 4, 1) := by decide +kernel
theorem dX12_init_30 : decode cX12_init 30 = .ok (.newarray .int, 2) := by decide +kernel
theorem dX12_init_32 : decode cX12_init 32 = .ok (.putfield 19, 3) := by decide +kernel
theorem dX12_init_35 : decode cX12_init 35 = .ok (.aload_n 0, 1) := by decide +kernel
theorem dX12_init_36 : decode cX12_init 36 = .ok (.iconst 4, 1) := by decide +kernel
theorem dX12_init_37 : decode cX12_init 37 = .ok (.newarray .int, 2) := by decide +kernel
theorem dX12_init_39 : decode cX12_init 39 = .ok (.putfield 22, 3) := by decide +kernel
theorem dX12_init_42 : decode cX12_init 42 = .ok (.aload_n 0, 1) := by decide +kernel
theorem dX12_init_43 : decode cX12_init 43 = .ok (.bipush 72, 2) := by decide +kernel
theorem dX12_init_45 : decode cX12_init 45 = .ok (.newarray .int, 2) := by decide +kernel
theorem dX12_init_47 : decode cX12_init 47 = .ok (.putfield 25, 3) := by decide +kernel
theorem dX12_init_50 : decode cX12_init 50 = .ok (.aload_n 0, 1) := by decide +kernel
theorem dX12_init_51 : decode cX12_init 51 = .ok (.bipush 40, 2) := by decide +kernel
theorem dX12_init_53 : decode cX12_init 53 = .ok (.newarray .byte, 2) := by decide +kernel
theorem dX12_init_55 : decode cX12_init 55 = .ok (.putfield 28, 3) := by decide +kernel
theorem dX12_init_58 : decode cX12_init 58 = .ok (.aload_n 0, 1) := by decide +kernel
theorem dX12_init_59 : decode cX12_init 59 = .ok (.bipush 6, 2) := by decide +kernel
theorem dX12_init_61 : decode cX12_init 61 = .ok (.newarray .int, 2) := by decide +kernel
theorem dX12_init_63 : decode cX12_init 63 = .ok (.putfield 32, 3) := by decide +kernel
theorem dX12_init_66 : decode cX12_init 66 = .ok (.aload_n 0, 1) := by decide +kernel
theorem dX12_init_67 : decode cX12_init 67 = .ok (.bipush 36, 2) := by decide +kernel
theorem dX12_init_69 : decode cX12_init 69 = .ok (.newarray .int, 2) := by decide +kernel
theorem dX12_init_71 : decode cX12_init 71 = .ok (.putfield 35, 3) := by decide +kernel
theorem dX12_init_74 : decode cX12_init 74 = .ok (.aload_n 0, 1) := by decide +kernel
theorem dX12_init_75 : decode cX12_init 75 = .ok (.bipush 36, 2) := by decide +kernel
theorem dX12_init_77 : decode cX12_init 77 = .ok (.newarray .int, 2) := by decide +kernel
theorem dX12_init_79 : decode cX12_init 79 = .ok (.putfield 38, 3) := by decide +kernel
theorem dX12_init_82 : decode cX12_init 82 = .ok (.aload_n 0, 1) := by decide +kernel
theorem dX12_init_83 : decode cX12_init 83 = .ok (.bipush 6, 2) := by decide +kernel
theorem dX12_init_85 : decode cX12_init 85 = .ok (.newarray .int, 2) := by decide +kernel
theorem dX12_init_87 : decode cX12_init 87 = .ok (.putfield 41, 3) := by decide +kernel
theorem dX12_init_90 : decode cX12_init 90 = .ok (.aload_n 0, 1) := by decide +kernel
theorem dX12_init_91 : decode cX12_init 91 = .ok (.bipush 6, 2) := by decide +kernel
theorem dX12_init_93 : decode cX12_init 93 = .ok (.newarray .int, 2) := by decide +kernel
theorem dX12_init_95 : decode cX12_init 95 = .ok (.putfield 44, 3) := by decide +kernel
theorem dX12_init_98 : decode cX12_init 98 = .ok (.aload_n 0, 1) := by decide +kernel
theorem dX12_init_99 : decode cX12_init 99 = .ok (.bipush 24, 2) := by decide +kernel
theorem dX12_init_101 : decode cX12_init 101 = .ok (.newarray .int, 2) := by decide +kernel
theorem dX12_init_103 : decode cX12_init 103 = .ok (.putfield 47, 3) := by decide +kernel
theorem dX12_init_106 : decode cX12_init 106 = .ok (.aload_n 0, 1) := by decide +kernel
theorem dX12_init_107 : decode cX12_init 107 = .ok (.bipush 24, 2) := by decide +kernel
theorem dX12_init_109 : decode cX12_init 109 = .ok (.newarray .int, 2) := by decide +kernel
theorem dX12_init_111 : decode cX12_init 111 = .ok (.putfield 50, 3) := by decide +kernel
theorem dX12_init_114 : decode cX12_init 114 = .ok (.aload_n 0, 1) := by decide +kernel
theorem dX12_init_115 : decode cX12_init 115 = .ok (.bipush 24, 2) := by decide +kernel
theorem dX12_init_117 : decode cX12_init 117 = .ok (.newarray .int, 2) := by decide +kernel
theorem dX12_init_119 : decode cX12_init 119 = .ok (.putfield 53, 3) := by decide +kernel
theorem dX12_init_122 : decode cX12_init 122 = .ok (.aload_n 0, 1) := by decide +kernel
theorem dX12_init_123 : decode cX12_init 123 = .ok (.bipush 72, 2) := by decide +kernel
theorem dX12_init_125 : decode cX12_init 125 = .ok (.newarray .int, 2) := by decide +kernel
theorem dX12_init_127 : decode cX12_init 127 = .ok (.putfield 56, 3) := by decide +kernel
theorem dX12_init_130 : decode cX12_init 130 = .ok (.aload_n 0, 1) := by decide +kernel
theorem dX12_init_131 : decode cX12_init 131 = .ok (.bipush 72, 2) := by decide +kernel
theorem dX12_init_133 : decode cX12_init 133 = .ok (.newarray .int, 2) := by decide +kernel
theorem dX12_init_135 : decode cX12_init 135 = .ok (.putfield 59, 3) := by decide +kernel
theorem dX12_init_138 : decode cX12_init 138 = .ok (.aload_n 0, 1) := by decide +kernel
theorem dX12_init_139 : decode cX12_init 139 = .ok (.bipush 48, 2) := by decide +kernel
theorem dX12_init_141 : decode cX12_init 141 = .ok (.newarray .int, 2) := by decide +kernel
theorem dX12_init_143 : decode cX12_init 143 = .ok (.putfield 62, 3) := by decide +kernel
theorem dX12_init_146 : decode cX12_init 146 = .ok (.aload_n 0, 1) := by decide +kernel
theorem dX12_init_147 : decode cX12_init 147 = .ok (.bipush 6, 2) := by decide +kernel
theorem dX12_init_149 : decode cX12_init 149 = .ok (.newarray .int, 2) := by decide +kernel
theorem dX12_init_151 : decode cX12_init 151 = .ok (.putfield 65, 3) := by decide +kernel
theorem dX12_init_154 : decode cX12_init 154 = .ok (.aload_n 0, 1) := by decide +kernel
theorem dX12_init_155 : decode cX12_init 155 = .ok (.iconst 4, 1) := by decide +kernel
theorem dX12_init_156 : decode cX12_init 156 = .ok (.newarray .int, 2) := by decide +kernel
theorem dX12_init_158 : decode cX12_init 158 = .ok (.putfield 68, 3) := by decide +kernel
theorem dX12_init_161 : decode cX12_init 161 = .ok (.aload_n 0, 1) := by decide +kernel
theorem dX12_init_162 : decode cX12_init 162 = .ok (.bipush 32, 2) := by decide +kernel
theorem dX12_init_164 : decode cX12_init 164 = .ok (.newarray .int, 2) := by decide +kernel
theorem dX12_init_166 : decode cX12_init 166 = .ok (.putfield 71, 3) := by decide +kernel
theorem dX12_init_169 : decode cX12_init 169 = .ok (.aload_n 0, 1) := by decide +kernel
theorem dX12_init_170 : decode cX12_init 170 = .ok (.bipush 32, 2) := by decide +kernel
theorem dX12_init_172 : decode cX12_init 172 = .ok (.newarray .int, 2) := by decide +kernel
theorem dX12_init_174 : decode cX12_init 174 = .ok (.putfield 74, 3) := by decide +kernel
theorem dX12_init_177 : decode cX12_init 177 = .ok (.aload_n 0, 1) := by decide +kernel
theorem dX12_init_178 : decode cX12_init 178 = .ok (.bipush 6, 2) := by decide +kernel
theorem dX12_init_180 : decode cX12_init 180 = .ok (.newarray .int, 2) := by decide +kernel
theorem dX12_init_182 : decode cX12_init 182 = .ok (.putfield 77, 3) := by decide +kernel
theorem dX12_init_185 : decode cX12_init 185 = .ok (.aload_n 0, 1) := by decide +kernel
theorem dX12_init_186 : decode cX12_init 186 = .ok (.bipush 6, 2) := by decide +kernel
theorem dX12_init_188 : decode cX12_init 188 = .ok (.newarray .int, 2) := by decide +kernel
theorem dX12_init_190 : decode cX12_init 190 = .ok (.putfield 80, 3) := by decide +kernel
theorem dX12_init_193 : decode cX12_init 193 = .ok (.aload_n 0, 1) := by decide +kernel
theorem dX12_init_194 : decode cX12_init 194 = .ok (.iconst 4, 1) := by decide +kernel
theorem dX12_init_195 : decode cX12_init 195 = .ok (.newarray .int, 2) := by decide +kernel
theorem dX12_init_197 : decode cX12_init 197 = .ok (.putfield 83, 3) := by decide +kernel
theorem dX12_init_200 : decode cX12_init 200 = .ok (.aload_n 0, 1) := by decide +kernel
theorem dX12_init_201 : decode cX12_init 201 = .ok (.bipush 64, 2) := by decide +kernel
theorem dX12_init_203 : decode cX12_init 203 = .ok (.newarray .int, 2) := by decide +kernel
theorem dX12_init_205 : decode cX12_init 205 = .ok (.putfield 86, 3) := by decide +kernel
theorem dX12_init_208 : decode cX12_init 208 = .ok (.aload_n 0, 1) := by decide +kernel
theorem dX12_init_209 : decode cX12_init 209 = .ok (.bipush 6, 2) := by decide +kernel
theorem dX12_init_211 : decode cX12_init 211 = .ok (.newarray .int, 2) := by decide +kernel
theorem dX12_init_213 : decode cX12_init 213 = .ok (.putfield 89, 3) := by decide +kernel
theorem dX12_init_216 : decode cX12_init 216 = .ok (.aload_n 0, 1) := by decide +kernel
theorem dX12_init_217 : decode cX12_init 217 = .ok (.bipush 24, 2) := by decide +kernel
theorem dX12_init_219 : decode cX12_init 219 = .ok (.newarray .int, 2) := by decide +kernel
theorem dX12_init_221 : decode cX12_init 221 = .ok (.putfield 92, 3) := by decide +kernel
theorem dX12_init_224 : decode cX12_init 224 = .ok (.aload_n 0, 1) := by decide +kernel
theorem dX12_init_225 : decode cX12_init 225 = .ok (.iconst 4, 1) := by decide +kernel
theorem dX12_init_226 : decode cX12_init 226 = .ok (.newarray .int, 2) := by decide +kernel
theorem dX12_init_228 : decode cX12_init 228 = .ok (.putfield 95, 3) := by decide +kernel
theorem dX12_init_231 : decode cX12_init 231 = .ok (.aload_n 0, 1) := by decide +kernel
theorem dX12_init_232 : decode cX12_init 232 = .ok (.bipush 12, 2) := by decide +kernel
theorem dX12_init_234 : decode cX12_init 234 = .ok (.newarray .int, 2) := by decide +kernel
theorem dX12_init_236 : decode cX12_init 236 = .ok (.putfield 98, 3) := by decide +kernel
theorem dX12_init_239 : decode cX12_init 239 = .ok (.aload_n 0, 1) := by decide +kernel
theorem dX12_init_240 : decode cX12_init 240 = .ok (.bipush 7, 2) := by decide +kernel
theorem dX12_init_242 : decode cX12_init 242 = .ok (.newarray .int, 2) := by decide +kernel
theorem dX12_init_244 : decode cX12_init 244 = .ok (.putfield 101, 3) := by decide +kernel
theorem dX12_init_247 : decode cX12_init 247 = .ok (.aload_n 0, 1) := by decide +kernel
theorem dX12_init_248 : decode cX12_init 248 = .ok (.bipush 7, 2) := by decide +kernel
theorem dX12_init_250 : decode cX12_init 250 = .ok (.newarray .int, 2) := by decide +kernel
theorem dX12_init_252 : decode cX12_init 252 = .ok (.putfield 104, 3) := by decide +kernel
theorem dX12_init_255 : decode cX12_init 255 = .ok (.aload_n 0, 1) := by decide +kernel
theorem dX12_init_256 : decode cX12_init 256 = .ok (.iconst 2, 1) := by decide +kernel
theorem dX12_init_257 : decode cX12_init 257 = .ok (.newarray .int, 2) := by decide +kernel
theorem dX12_init_259 : decode cX12_init 259 = .ok (.putfield 107, 3) := by decide +kernel
theorem dX12_init_262 : decode cX12_init 262 = .ok (.aload_n 0, 1) := by decide +kernel
theorem dX12_init_263 : decode cX12_init 263 = .ok (.bipush 49, 2) := by decide +kernel
theorem dX12_init_265 : decode cX12_init 265 = .ok (.newarray .long, 2) := by decide +kernel
theorem dX12_init_267 : decode cX12_init 267 = .ok (.putfield 110, 3) := by decide +kernel
theorem dX12_init_270 : decode cX12_init 270 = .ok (.aload_n 0, 1) := by decide +kernel
theorem dX12_init_271 : decode cX12_init 271 = .ok (.bipush 49, 2) := by decide +kernel
theorem dX12_init_273 : decode cX12_init 273 = .ok (.newarray .long, 2) := by decide +kernel
theorem dX12_init_275 : decode cX12_init 275 = .ok (.putfield 114, 3) := by decide +kernel
theorem dX12_init_278 : decode cX12_init 278 = .ok (.aload_n 0, 1) := by decide +kernel
theorem dX12_init_279 : decode cX12_init 279 = .ok (.bipush 8, 2) := by decide +kernel
theorem dX12_init_281 : decode cX12_init 281 = .ok (.newarray .int, 2) := by decide +kernel
theorem dX12_init_283 : decode cX12_init 283 = .ok (.putfield 117, 3) := by decide +kernel
theorem dX12_init_286 : decode cX12_init 286 = .ok (.aload_n 0, 1) := by decide +kernel
theorem dX12_init_287 : decode cX12_init 287 = .ok (.sipush 576, 3) := by decide +kernel
theorem dX12_init_290 : decode cX12_init 290 = .ok (.newarray .boolean, 2) := by decide +kernel
theorem dX12_init_292 : decode cX12_init 292 = .ok (.putfield 120, 3) := by decide +kernel
theorem dX12_init_295 : decode cX12_init 295 = .ok (.aload_n 0, 1) := by decide +kernel
theorem dX12_init_296 : decode cX12_init 296 = .ok (.bipush 24, 2) := by decide +kernel
theorem dX12_init_298 : decode cX12_init 298 = .ok (.newarray .int, 2) := by decide +kernel
theorem dX12_init_300 : decode cX12_init 300 = .ok (.putfield 124, 3) := by decide +kernel
theorem dX12_init_303 : decode cX12_init 303 = .ok (.aload_n 0, 1) := by decide +kernel
theorem dX12_init_304 : decode cX12_init 304 = .ok (.bipush 24, 2) := by decide +kernel
theorem dX12_init_306 : decode cX12_init 306 = .ok (.newarray .boolean, 2) := by decide +kernel
theorem dX12_init_308 : decode cX12_init 308 = .ok (.putfield 127, 3) := by decide +kernel
theorem dX12_init_311 : decode cX12_init 311 = .ok (.aload_n 0, 1) := by decide +kernel
theorem dX12_init_312 : decode cX12_init 312 = .ok (.bipush 24, 2) := by decide +kernel
theorem dX12_init_314 : decode cX12_init 314 = .ok (.newarray .int, 2) := by decide +kernel
theorem dX12_init_316 : decode cX12_init 316 = .ok (.putfield 130, 3) := by decide +kernel
theorem dX12_init_319 : decode cX12_init 319 = .ok (.aload_n 0, 1) := by decide +kernel
theorem dX12_init_320 : decode cX12_init 320 = .ok (.bipush 24, 2) := by decide +kernel
theorem dX12_init_322 : decode cX12_init 322 = .ok (.newarray .int, 2) := by decide +kernel
theorem dX12_init_324 : decode cX12_init 324 = .ok (.putfield 133, 3) := by decide +kernel
theorem dX12_init_327 : decode cX12_init 327 = .ok (.aload_n 0, 1) := by decide +kernel
theorem dX12_init_328 : decode cX12_init 328 = .ok (.bipush 24, 2) := by decide +kernel
theorem dX12_init_330 : decode cX12_init 330 = .ok (.newarray .int, 2) := by decide +kernel
theorem dX12_init_332 : decode cX12_init 332 = .ok (.putfield 136, 3) := by decide +kernel
theorem dX12_init_335 : decode cX12_init 335 = .ok (.aload_n 0, 1) := by decide +kernel
theorem dX12_init_336 : decode cX12_init 336 = .ok (.bipush 6, 2) := by decide +kernel
theorem dX12_init_338 : decode cX12_init 338 = .ok (.newarray .int, 2) := by decide +kernel
theorem dX12_init_340 : decode cX12_init 340 = .ok (.putfield 139, 3) := by decide +kernel
theorem dX12_init_343 : decode cX12_init 343 = .ok (.iconst 0, 1) := by decide +kernel
theorem dX12_init_344 : decode cX12_init 344 = .ok (.istore_n 1, 1) := by decide +kernel
theorem dX12_init_345 : decode cX12_init 345 = .ok (.iload_n 1, 1) := by decide +kernel
theorem dX12_init_346 : decode cX12_init 346 = .ok (.bipush 8, 2) := by decide +kernel
theorem dX12_init_348 : decode cX12_init 348 = .ok (.if_icmp .ge 17, 3) := by decide +kernel
theorem dX12_init_351 : decode cX12_init 351 = .ok (.aload_n 0, 1) := by decide +kernel
theorem dX12_init_352 : decode cX12_init 352 = .ok (.getfield 13, 3) := by decide +kernel
theorem dX12_init_355 : decode cX12_init 355 = .ok (.iload_n 1, 1) := by decide +kernel
theorem dX12_init_356 : decode cX12_init 356 = .ok (.bipush 100, 2) := by decide +kernel
theorem dX12_init_358 : decode cX12_init 358 = .ok (.iastore, 1) := by decide +kernel
theorem dX12_init_359 : decode cX12_init 359 = .ok (.iinc 1 1, 3) := by decide +kernel
theorem dX12_init_362 : decode cX12_init 362 = .ok (.goto (-17), 3) := by decide +kernel
theorem dX12_init_365 : decode cX12_init 365 = .ok (.iconst 0, 1) := by decide +kernel
theorem dX12_init_366 : decode cX12_init 366 = .ok (.istore_n 1, 1) := by decide +kernel
theorem dX12_init_367 : decode cX12_init 367 = .ok (.iload_n 1, 1) := by decide +kernel
theorem dX12_init_368 : decode cX12_init 368 = .ok (.iconst 4, 1) := by decide +kernel
theorem dX12_init_369 : decode cX12_init 369 = .ok (.if_icmp .ge 28, 3) := by decide +kernel
theorem dX12_init_372 : decode cX12_init 372 = .ok (.aload_n 0, 1) := by decide +kernel
theorem dX12_init_373 : decode cX12_init 373 = .ok (.getfield 19, 3) := by decide +kernel
theorem dX12_init_376 : decode cX12_init 376 = .ok (.iload_n 1, 1) := by decide +kernel
theorem dX12_init_377 : decode cX12_init 377 = .ok (.bipush 8, 2) := by decide +kernel
theorem dX12_init_379 : decode cX12_init 379 = .ok (.iload_n 1, 1) := by decide +kernel
theorem dX12_init_380 : decode cX12_init 380 = .ok (.ishr, 1) := by decide +kernel
theorem dX12_init_381 : decode cX12_init 381 = .ok (.iastore, 1) := by decide +kernel
theorem dX12_init_382 : decode cX12_init 382 = .ok (.aload_n 0, 1) := by decide +kernel
theorem dX12_init_383 : decode cX12_init 383 = .ok (.getfield 22, 3) := by decide +kernel
theorem dX12_init_386 : decode cX12_init 386 = .ok (.iload_n 1, 1) := by decide +kernel
theorem dX12_init_387 : decode cX12_init 387 = .ok (.iconst 1, 1) := by decide +kernel
theorem dX12_init_388 : decode cX12_init 388 = .ok (.iload_n 1, 1) := by decide +kernel
theorem dX12_init_389 : decode cX12_init 389 = .ok (.ishl, 1) := by decide +kernel
theorem dX12_init_390 : decode cX12_init 390 = .ok (.iastore, 1) := by decide +kernel
theorem dX12_init_391 : decode cX12_init 391 = .ok (.iinc 1 1, 3) := by decide +kernel
theorem dX12_init_394 : decode cX12_init 394 = .ok (.goto (-27), 3) := by decide +kernel
theorem dX12_init_397 : decode cX12_init 397 = .ok (.iconst 0, 1) := by decide +kernel
theorem dX12_init_398 : decode cX12_init 398 = .ok (.istore_n 1, 1) := by decide +kernel
theorem dX12_init_399 : decode cX12_init 399 = .ok (.iload_n 1, 1) := by decide +kernel
theorem dX12_init_400 : decode cX12_init 400 = .ok (.bipush 48, 2) := by decide +kernel
theorem dX12_init_402 : decode cX12_init 402 = .ok (.if_icmp .ge 16, 3) := by decide +kernel
theorem dX12_init_405 : decode cX12_init 405 = .ok (.aload_n 0, 1) := by decide +kernel
theorem dX12_init_406 : decode cX12_init 406 = .ok (.getfield 62, 3) := by decide +kernel
theorem dX12_init_409 : decode cX12_init 409 = .ok (.iload_n 1, 1) := by decide +kernel
theorem dX12_init_410 : decode cX12_init 410 = .ok (.iconst (-1), 1) := by decide +kernel
theorem dX12_init_411 : decode cX12_init 411 = .ok (.iastore, 1) := by decide +kernel
theorem dX12_init_412 : decode cX12_init 412 = .ok (.iinc 1 1, 3) := by decide +kernel
theorem dX12_init_415 : decode cX12_init 415 = .ok (.goto (-16), 3) := by decide +kernel
theorem dX12_init_418 : decode cX12_init 418 = .ok (.iconst 0, 1) := by decide +kernel
theorem dX12_init_419 : decode cX12_init 419 = .ok (.istore_n 1, 1) := by decide +kernel
theorem dX12_init_420 : decode cX12_init 420 = .ok (.iload_n 1, 1) := by decide +kernel
theorem dX12_init_421 : decode cX12_init 421 = .ok (.iconst 4, 1) := by decide +kernel
theorem dX12_init_422 : decode cX12_init 422 = .ok (.if_icmp .ge 17, 3) := by decide +kernel
theorem dX12_init_425 : decode cX12_init 425 = .ok (.aload_n 0, 1) := by decide +kernel
theorem dX12_init_426 : decode cX12_init 426 = .ok (.getfield 68, 3) := by decide +kernel
theorem dX12_init_429 : decode cX12_init 429 = .ok (.iload_n 1, 1) := by decide +kernel
theorem dX12_init_430 : decode cX12_init 430 = .ok (.bipush 8, 2) := by decide +kernel
theorem dX12_init_432 : decode cX12_init 432 = .ok (.iastore, 1) := by decide +kernel
theorem dX12_init_433 : decode cX12_init 433 = .ok (.iinc 1 1, 3) := by decide +kernel
theorem dX12_init_436 : decode cX12_init 436 = .ok (.goto (-16), 3) := by decide +kernel
theorem dX12_init_439 : decode cX12_init 439 = .ok (.return_, 1) := by decide +kernel
def tl_X12 (Z : List ZD) (K : ZKt) : ZSt := (sSeq (sScope 1 (sSeq (sDecI 1 (xP (eK (0 : Int32)))) (sWhl (xP (eB (fun x y : Int32 => decide (x < y)) (eV 1) (eK (8 : Int32)))) (sSeq (sSt Z 0 (eFR Z 12 1 (eR 0)) (xP (eV 1)) (xP (eK (100 : Int32)))) (sInc 1 1))))) (sSeq (sScope 1 (sSeq (sDecI 1 (xP (eK (0 : Int32)))) (sWhl (xP (eB (fun x y : Int32 => decide (x < y)) (eV 1) (eK (4 : Int32)))) (sSeq (sSeq (sSt Z 0 (eFR Z 12 3 (eR 0)) (xP (eV 1)) (xP (eB (fun x y : Int32 => x >>> (y &&& 31)) (eK (8 : Int32)) (eV 1)))) (sSt Z 0 (eFR Z 12 4 (eR 0)) (xP (eV 1)) (xP (eB (fun x y : Int32 => x <<< (y &&& 31)) (eK (1 : Int32)) (eV 1))))) (sInc 1 1))))) (sSeq (sScope 1 (sSeq (sDecI 1 (xP (eK (0 : Int32)))) (sWhl (xP (eB (fun x y : Int32 => decide (x < y)) (eV 1) (eK (48 : Int32)))) (sSeq (sSt Z 0 (eFR Z 12 21 (eR 0)) (xP (eV 1)) (xP (eK ((-1) : Int32)))) (sInc 1 1))))) (sSeq (sScope 1 (sSeq (sDecI 1 (xP (eK (0 : Int32)))) (sWhl (xP (eB (fun x y : Int32 => decide (x < y)) (eV 1) (eK (4 : Int32)))) (sSeq (sSt Z 0 (eFR Z 12 23 (eR 0)) (xP (eV 1)) (xP (eK (8 : Int32)))) (sInc 1 1))))) sRetV))))
theorem ct_X12 (G : ZG) (d : Nat) (K : ZKt) (hT : zt5 G.2.2.2) : CS G RX12 cX12_init 2 d K none [] (fun _ => []) 343 (tl_X12 G.2.2.2 K) := by
  unfold tl_X12
  exact (CS.seq 365 (CS.scope (CS.seq 345 (CS.decI_n (CX.pure (CE.iconst kI_0 dX12_init_343 zhd)) rfl (by decide) dX12_init_344 zhd) (CS.whl (T := 351) (F := 365) (p1 := 362) (CD.pure (CC.icmp_lt_F (T := 351) (F := 365) (CE.iload_n rfl dX12_init_345 zhd) (CE.bipush kB_8 dX12_init_346 zhd) dX12_init_348 rfl rfl)) (CS.seq 359 (CS.st (CE.getR (CE.aload_n rfl dX12_init_351 zhd) fs_X12_13 dX12_init_352 zhd) (CX.pure (CE.iload_n rfl dX12_init_355 zhd)) (CX.pure (CE.bipush kB_100 dX12_init_356 zhd)) (Or.inl ⟨rfl, dX12_init_358⟩) zhd) (CS.inc kI_1 (by decide) dX12_init_359 zhd)) dX12_init_362 rfl zhd))) (CS.seq 397 (CS.scope (CS.seq 367 (CS.decI_n (CX.pure (CE.iconst kI_0 dX12_init_365 zhd)) rfl (by decide) dX12_init_366 zhd) (CS.whl (T := 372) (F := 397) (p1 := 394) (CD.pure (CC.icmp_lt_F (T := 372) (F := 397) (CE.iload_n rfl dX12_init_367 zhd) (CE.iconst kI_4 dX12_init_368 zhd) dX12_init_369 rfl rfl)) (CS.seq 391 (CS.seq 382 (CS.st (CE.getR (CE.aload_n rfl dX12_init_372 zhd) fs_X12_19 dX12_init_373 zhd) (CX.pure (CE.iload_n rfl dX12_init_376 zhd)) (CX.pure (CE.ishr (CE.bipush kB_8 dX12_init_377 zhd) (CE.iload_n rfl dX12_init_379 zhd) dX12_init_380 zhd)) (Or.inl ⟨rfl, dX12_init_381⟩) zhd) (CS.st (CE.getR (CE.aload_n rfl dX12_init_382 zhd) fs_X12_22 dX12_init_383 zhd) (CX.pure (CE.iload_n rfl dX12_init_386 zhd)) (CX.pure (CE.ishl (CE.iconst kI_1 dX12_init_387 zhd) (CE.iload_n rfl dX12_init_388 zhd) dX12_init_389 zhd)) (Or.inl ⟨rfl, dX12_init_390⟩) zhd)) (CS.inc kI_1 (by decide) dX12_init_391 zhd)) dX12_init_394 rfl zhd))) (CS.seq 418 (CS.scope (CS.seq 399 (CS.decI_n (CX.pure (CE.iconst kI_0 dX12_init_397 zhd)) rfl (by decide) dX12_init_398 zhd) (CS.whl (T := 405) (F := 418) (p1 := 415) (CD.pure (CC.icmp_lt_F (T := 405) (F := 418) (CE.iload_n rfl dX12_init_399 zhd) (CE.bipush kB_48 dX12_init_400 zhd) dX12_init_402 rfl rfl)) (CS.seq 412 (CS.st (CE.getR (CE.aload_n rfl dX12_init_405 zhd) fs_X12_62 dX12_init_406 zhd) (CX.pure (CE.iload_n rfl dX12_init_409 zhd)) (CX.pure (CE.iconst kI_m1 dX12_init_410 zhd)) (Or.inl ⟨rfl, dX12_init_411⟩) zhd) (CS.inc kI_1 (by decide) dX12_init_412 zhd)) dX12_init_415 rfl zhd))) (CS.seq 439 (CS.scope (CS.seq 420 (CS.decI_n (CX.pure (CE.iconst kI_0 dX12_init_418 zhd)) rfl (by decide) dX12_init_419 zhd) (CS.whl (T := 425) (F := 439) (p1 := 436) (CD.pure (CC.icmp_lt_F (T := 425) (F := 439) (CE.iload_n rfl dX12_init_420 zhd) (CE.iconst kI_4 dX12_init_421 zhd) dX12_init_422 rfl rfl)) (CS.seq 433 (CS.st (CE.getR (CE.aload_n rfl dX12_init_425 zhd) fs_X12_68 dX12_init_426 zhd) (CX.pure (CE.iload_n rfl dX12_init_429 zhd)) (CX.pure (CE.bipush kB_8 dX12_init_430 zhd)) (Or.inl ⟨rfl, dX12_init_432⟩) zhd) (CS.inc kI_1 (by decide) dX12_init_433 zhd)) dX12_init_436 rfl zhd))) (CS.retV dX12_init_439)))))
theorem zw_X12 (D : va_G) (ty : Nat → ClassId) (h : Nat) : zgw (D, ty, h) 12 [.ref (h + 1), .ref (h + 2), .ref (h + 3), .ref (h + 4), .ref (h + 5), .ref (h + 6), .int 0, .ref (h + 7), .int 0, .ref (h + 8), .ref (h + 9), .ref (h + 10), .ref (h + 11), .ref (h + 12), .int 0, .int 0, .ref (h + 13), .ref (h + 14), .ref (h + 15), .ref (h + 16), .ref (h + 17), .ref (h + 18), .ref (h + 19), .ref (h + 20), .ref (h + 21), .ref (h + 22), .int 0, .ref (h + 23), .ref (h + 24), .int 0, .ref (h + 25), .ref (h + 26), .int 0, .ref (h + 27), .ref (h + 28), .ref (h + 29), .int 0, .ref (h + 30), .int 0, .int 0, .int 0, .ref (h + 31), .ref (h + 32), .ref (h + 33), .ref (h + 34), .ref (h + 35), .ref (h + 36), .ref (h + 37), .ref (h + 38), .ref (h + 39), .ref (h + 40), .ref (h + 41), .ref (h + 42), .ref (h + 43), .long 0] (Zm.tail.take 43) zM0 = zw (D, ty, h, Zm) zM0 := zgw_zw (fr := [some (some 1), some (some 2), some (some 3), some (some 4), some (some 5), some (some 6), none, some (some 7), none, some (some 8), some (some 9), some (some 10), some (some 11), some (some 12), none, none, some (some 13), some (some 14), some (some 15), some (some 16), some (some 17), some (some 18), some (some 19), some (some 20), some (some 21), some (some 22), none, some (some 23), some (some 24), none, some (some 25), some (some 26), none, some (some 27), some (some 28), some (some 29), none, some (some 30), none, none, none, some (some 31), some (some 32), some (some 33), some (some 34), some (some 35), some (some 36), some (some 37), some (some 38), some (some 39), some (some 40), some (some 41), some (some 42), some (some 43), some none]) (by rfl)
set_option maxRecDepth 20000 in
theorem in_X12 (l : Launch) (D : va_G) (ty : Nat → ClassId) (h dd : Nat) {P : ZM → Prop} (hP : tl_X12 Zm (KK Zm (fun _ _ _ => .null) (dd + 1)) ([.ref 0], zM0) (fun _ => False) (zNP P) (fun _ _ => False)) : ZN l (D, ty, h, Zm) (dd + 1 + 1) 12 [.null, .null, .null, .null, .null, .null, .int 0, .null, .int 0, .null, .null, .null, .null, .null, .int 0, .int 0, .null, .null, .null, .null, .null, .null, .null, .null, .null, .null, .int 0, .null, .null, .int 0, .null, .null, .int 0, .null, .null, .null, .int 0, .null, .int 0, .int 0, .int 0, .null, .null, .null, .null, .null, .null, .null, .null, .null, .null, .null, .null, .null, .long 0] (yX12_init, cX12_init, 2, none) 43 1522 P := by
  refine ZN.of (by decide +kernel) rfl rfl (by decide) ?_
  intro p e s m args below meth c C hO hsz
  refine g_aload0 C dX12_init_0 ?_
  refine g_obj C (z_tw 1050 (by decide +kernel)) (z_tw 24 (by decide +kernel)) (z_tw 25 (by decide +kernel)) ⟨by show 1 ≤ dd + 1 + 1; omega, by show 12 ≤ 40 * (dd + 1 + 1); omega⟩ dX12_init_1 ?_
  refine g_aload0 C dX12_init_4 ?_
  refine g_bipush (v := 8) C (by decide) dX12_init_5 ?_
  refine g_newa (t := 0) (k := 8) (ty := .int) C rfl rfl (g_ra C (t := 0) rfl) (z_tw 63 (by decide +kernel)) (fun _ => rfl) (by decide) (by decide) (by decide) (Nat.le_of_ble_eq_true rfl) (Nat.le_of_ble_eq_true rfl) dX12_init_7 ?_
  show gW (D, ty, h) 44 2 12 p l e _ s m args below meth c _ 1 8 9 [.null, .null, .null, .null, .null, .null, .int 0, .null, .int 0, .null, .null, .null, .null, .null, .int 0, .int 0, .null, .null, .null, .null, .null, .null, .null, .null, .null, .null, .int 0, .null, .null, .int 0, .null, .null, .int 0, .null, .null, .null, .int 0, .null, .int 0, .int 0, .int 0, .null, .null, .null, .null, .null, .null, .null, .null, .null, .null, .null, .null, .null, .long 0] (Zm.tail.take 1) zM0 [.ref (h + 1), .ref h]
  refine g_put (k := 0) (T := TX12) (N := 55) (ty := (.array .int)) C zC12 (by decide) (by decide +kernel) (z_tw 1051 (by decide +kernel)) rfl rfl rfl rfl (by show 0 < 55; decide) (Nat.le_of_ble_eq_true rfl) dX12_init_9 ?_
  show gW (D, ty, h) 44 2 12 p l e _ s m args below meth c _ 1 8 12 [.ref (h + 1), .null, .null, .null, .null, .null, .int 0, .null, .int 0, .null, .null, .null, .null, .null, .int 0, .int 0, .null, .null, .null, .null, .null, .null, .null, .null, .null, .null, .int 0, .null, .null, .int 0, .null, .null, .int 0, .null, .null, .null, .int 0, .null, .int 0, .int 0, .int 0, .null, .null, .null, .null, .null, .null, .null, .null, .null, .null, .null, .null, .null, .long 0] (Zm.tail.take 1) zM0 []
  refine g_aload0 C dX12_init_12 ?_
  refine g_bipush (v := 8) C (by decide) dX12_init_13 ?_
  refine g_newa (t := 0) (k := 8) (ty := .int) C rfl rfl (g_ra C (t := 0) rfl) (z_tw 63 (by decide +kernel)) (fun _ => rfl) (by decide) (by decide) (by decide) (Nat.le_of_ble_eq_true rfl) (Nat.le_of_ble_eq_true rfl) dX12_init_15 ?_
  show gW (D, ty, h) 44 2 12 p l e _ s m args below meth c _ 2 16 17 [.ref (h + 1), .null, .null, .null, .null, .null, .int 0, .null, .int 0, .null, .null, .null, .null, .null, .int 0, .int 0, .null, .null, .null, .null, .null, .null, .null, .null, .null, .null, .int 0, .null, .null, .int 0, .null, .null, .int 0, .null, .null, .null, .int 0, .null, .int 0, .int 0, .int 0, .null, .null, .null, .null, .null, .null, .null, .null, .null, .null, .null, .null, .null, .long 0] (Zm.tail.take 2) zM0 [.ref (h + 2), .ref h]
  refine g_put (k := 1) (T := TX12) (N := 55) (ty := (.array .int)) C zC12 (by decide) (by decide +kernel) (z_tw 1052 (by decide +kernel)) rfl rfl rfl rfl (by show 1 < 55; decide) (Nat.le_of_ble_eq_true rfl) dX12_init_17 ?_
  show gW (D, ty, h) 44 2 12 p l e _ s m args below meth c _ 2 16 20 [.ref (h + 1), .ref (h + 2), .null, .null, .null, .null, .int 0, .null, .int 0, .null, .null, .null, .null, .null, .int 0, .int 0, .null, .null, .null, .null, .null, .null, .null, .null, .null, .null, .int 0, .null, .null, .int 0, .null, .null, .int 0, .null, .null, .null, .int 0, .null, .int 0, .int 0, .int 0, .null, .null, .null, .null, .null, .null, .null, .null, .null, .null, .null, .null, .null, .long 0] (Zm.tail.take 2) zM0 []
  refine g_aload0 C dX12_init_20 ?_
  refine g_bipush (v := 8) C (by decide) dX12_init_21 ?_
  refine g_newa (t := 0) (k := 8) (ty := .int) C rfl rfl (g_ra C (t := 0) rfl) (z_tw 63 (by decide +kernel)) (fun _ => rfl) (by decide) (by decide) (by decide) (Nat.le_of_ble_eq_true rfl) (Nat.le_of_ble_eq_true rfl) dX12_init_23 ?_
  show gW (D, ty, h) 44 2 12 p l e _ s m args below meth c _ 3 24 25 [.ref (h + 1), .ref (h + 2), .null, .null, .null, .null, .int 0, .null, .int 0, .null, .null, .null, .null, .null, .int 0, .int 0, .null, .null, .null, .null, .null, .null, .null, .null, .null, .null, .int 0, .null, .null, .int 0, .null, .null, .int 0, .null, .null, .null, .int 0, .null, .int 0, .int 0, .int 0, .null, .null, .null, .null, .null, .null, .null, .null, .null, .null, .null, .null, .null, .long 0] (Zm.tail.take 3) zM0 [.ref (h + 3), .ref h]
  refine g_put (k := 2) (T := TX12) (N := 55) (ty := (.array .int)) C zC12 (by decide) (by decide +kernel) (z_tw 1053 (by decide +kernel)) rfl rfl rfl rfl (by show 2 < 55; decide) (Nat.le_of_ble_eq_true rfl) dX12_init_25 ?_
  show gW (D, ty, h) 44 2 12 p l e _ s m args below meth c _ 3 24 28 [.ref (h + 1), .ref (h + 2), .ref (h + 3), .null, .null, .null, .int 0, .null, .int 0, .null, .null, .null, .null, .null, .int 0, .int 0, .null, .null, .null, .null, .null, .null, .null, .null, .null, .null, .int 0, .null, .null, .int 0, .null, .null, .int 0, .null, .null, .null, .int 0, .null, .int 0, .int 0, .int 0, .null, .null, .null, .null, .null, .null, .null, .null, .null, .null, .null, .null, .null, .long 0] (Zm.tail.take 3) zM0 []
  refine g_aload0 C dX12_init_28 ?_
  refine g_iconst (v := 4) C (by decide) dX12_init_29 ?_
  refine g_newa (t := 0) (k := 4) (ty := .int) C rfl rfl (g_ra C (t := 0) rfl) (z_tw 63 (by decide +kernel)) (fun _ => rfl) (by decide) (by decide) (by decide) (Nat.le_of_ble_eq_true rfl) (Nat.le_of_ble_eq_true rfl) dX12_init_30 ?_
  show gW (D, ty, h) 44 2 12 p l e _ s m args below meth c _ 4 28 32 [.ref (h + 1), .ref (h + 2), .ref (h + 3), .null, .null, .null, .int 0, .null, .int 0, .null, .null, .null, .null, .null, .int 0, .int 0, .null, .null, .null, .null, .null, .null, .null, .null, .null, .null, .int 0, .null, .null, .int 0, .null, .null, .int 0, .null, .null, .null, .int 0, .null, .int 0, .int 0, .int 0, .null, .null, .null, .null, .null, .null, .null, .null, .null, .null, .null, .null, .null, .long 0] (Zm.tail.take 4) zM0 [.ref (h + 4), .ref h]
  refine g_put (k := 3) (T := TX12) (N := 55) (ty := (.array .int)) C zC12 (by decide) (by decide +kernel) (z_tw 1054 (by decide +kernel)) rfl rfl rfl rfl (by show 3 < 55; decide) (Nat.le_of_ble_eq_true rfl) dX12_init_32 ?_
  show gW (D, ty, h) 44 2 12 p l e _ s m args below meth c _ 4 28 35 [.ref (h + 1), .ref (h + 2), .ref (h + 3), .ref (h + 4), .null, .null, .int 0, .null, .int 0, .null, .null, .null, .null, .null, .int 0, .int 0, .null, .null, .null, .null, .null, .null, .null, .null, .null, .null, .int 0, .null, .null, .int 0, .null, .null, .int 0, .null, .null, .null, .int 0, .null, .int 0, .int 0, .int 0, .null, .null, .null, .null, .null, .null, .null, .null, .null, .null, .null, .null, .null, .long 0] (Zm.tail.take 4) zM0 []
  refine g_aload0 C dX12_init_35 ?_
  refine g_iconst (v := 4) C (by decide) dX12_init_36 ?_
  refine g_newa (t := 0) (k := 4) (ty := .int) C rfl rfl (g_ra C (t := 0) rfl) (z_tw 63 (by decide +kernel)) (fun _ => rfl) (by decide) (by decide) (by decide) (Nat.le_of_ble_eq_true rfl) (Nat.le_of_ble_eq_true rfl) dX12_init_37 ?_
  show gW (D, ty, h) 44 2 12 p l e _ s m args below meth c _ 5 32 39 [.ref (h + 1), .ref (h + 2), .ref (h + 3), .ref (h + 4), .null, .null, .int 0, .null, .int 0, .null, .null, .null, .null, .null, .int 0, .int 0, .null, .null, .null, .null, .null, .null, .null, .null, .null, .null, .int 0, .null, .null, .int 0, .null, .null, .int 0, .null, .null, .null, .int 0, .null, .int 0, .int 0, .int 0, .null, .null, .null, .null, .null, .null, .null, .null, .null, .null, .null, .null, .null, .long 0] (Zm.tail.take 5) zM0 [.ref (h + 5), .ref h]
  refine g_put (k := 4) (T := TX12) (N := 55) (ty := (.array .int)) C zC12 (by decide) (by decide +kernel) (z_tw 1055 (by decide +kernel)) rfl rfl rfl rfl (by show 4 < 55; decide) (Nat.le_of_ble_eq_true rfl) dX12_init_39 ?_
  show gW (D, ty, h) 44 2 12 p l e _ s m args below meth c _ 5 32 42 [.ref (h + 1), .ref (h + 2), .ref (h + 3), .ref (h + 4), .ref (h + 5), .null, .int 0, .null, .int 0, .null, .null, .null, .null, .null, .int 0, .int 0, .null, .null, .null, .null, .null, .null, .null, .null, .null, .null, .int 0, .null, .null, .int 0, .null, .null, .int 0, .null, .null, .null, .int 0, .null, .int 0, .int 0, .int 0, .null, .null, .null, .null, .null, .null, .null, .null, .null, .null, .null, .null, .null, .long 0] (Zm.tail.take 5) zM0 []
  refine g_aload0 C dX12_init_42 ?_
  refine g_bipush (v := 72) C (by decide) dX12_init_43 ?_
  refine g_newa (t := 0) (k := 72) (ty := .int) C rfl rfl (g_ra C (t := 0) rfl) (z_tw 63 (by decide +kernel)) (fun _ => rfl) (by decide) (by decide) (by decide) (Nat.le_of_ble_eq_true rfl) (Nat.le_of_ble_eq_true rfl) dX12_init_45 ?_
  show gW (D, ty, h) 44 2 12 p l e _ s m args below meth c _ 6 104 47 [.ref (h + 1), .ref (h + 2), .ref (h + 3), .ref (h + 4), .ref (h + 5), .null, .int 0, .null, .int 0, .null, .null, .null, .null, .null, .int 0, .int 0, .null, .null, .null, .null, .null, .null, .null, .null, .null, .null, .int 0, .null, .null, .int 0, .null, .null, .int 0, .null, .null, .null, .int 0, .null, .int 0, .int 0, .int 0, .null, .null, .null, .null, .null, .null, .null, .null, .null, .null, .null, .null, .null, .long 0] (Zm.tail.take 6) zM0 [.ref (h + 6), .ref h]
  refine g_put (k := 5) (T := TX12) (N := 55) (ty := (.array .int)) C zC12 (by decide) (by decide +kernel) (z_tw 1056 (by decide +kernel)) rfl rfl rfl rfl (by show 5 < 55; decide) (Nat.le_of_ble_eq_true rfl) dX12_init_47 ?_
  show gW (D, ty, h) 44 2 12 p l e _ s m args below meth c _ 6 104 50 [.ref (h + 1), .ref (h + 2), .ref (h + 3), .ref (h + 4), .ref (h + 5), .ref (h + 6), .int 0, .null, .int 0, .null, .null, .null, .null, .null, .int 0, .int 0, .null, .null, .null, .null, .null, .null, .null, .null, .null, .null, .int 0, .null, .null, .int 0, .null, .null, .int 0, .null, .null, .null, .int 0, .null, .int 0, .int 0, .int 0, .null, .null, .null, .null, .null, .null, .null, .null, .null, .null, .null, .null, .null, .long 0] (Zm.tail.take 6) zM0 []
  refine g_aload0 C dX12_init_50 ?_
  refine g_bipush (v := 40) C (by decide) dX12_init_51 ?_
  refine g_newa (t := 2) (k := 40) (ty := .byte) C rfl rfl (g_ra C (t := 2) rfl) (z_tw 1217 (by decide +kernel)) (fun _ => rfl) (by decide) (by decide) (by decide) (Nat.le_of_ble_eq_true rfl) (Nat.le_of_ble_eq_true rfl) dX12_init_53 ?_
  show gW (D, ty, h) 44 2 12 p l e _ s m args below meth c _ 7 144 55 [.ref (h + 1), .ref (h + 2), .ref (h + 3), .ref (h + 4), .ref (h + 5), .ref (h + 6), .int 0, .null, .int 0, .null, .null, .null, .null, .null, .int 0, .int 0, .null, .null, .null, .null, .null, .null, .null, .null, .null, .null, .int 0, .null, .null, .int 0, .null, .null, .int 0, .null, .null, .null, .int 0, .null, .int 0, .int 0, .int 0, .null, .null, .null, .null, .null, .null, .null, .null, .null, .null, .null, .null, .null, .long 0] (Zm.tail.take 7) zM0 [.ref (h + 7), .ref h]
  refine g_put (k := 7) (T := TX12) (N := 55) (ty := (.array .byte)) C zC12 (by decide) (by decide +kernel) (z_tw 1058 (by decide +kernel)) rfl rfl rfl rfl (by show 7 < 55; decide) (Nat.le_of_ble_eq_true rfl) dX12_init_55 ?_
  show gW (D, ty, h) 44 2 12 p l e _ s m args below meth c _ 7 144 58 [.ref (h + 1), .ref (h + 2), .ref (h + 3), .ref (h + 4), .ref (h + 5), .ref (h + 6), .int 0, .ref (h + 7), .int 0, .null, .null, .null, .null, .null, .int 0, .int 0, .null, .null, .null, .null, .null, .null, .null, .null, .null, .null, .int 0, .null, .null, .int 0, .null, .null, .int 0, .null, .null, .null, .int 0, .null, .int 0, .int 0, .int 0, .null, .null, .null, .null, .null, .null, .null, .null, .null, .null, .null, .null, .null, .long 0] (Zm.tail.take 7) zM0 []
  refine g_aload0 C dX12_init_58 ?_
  refine g_bipush (v := 6) C (by decide) dX12_init_59 ?_
  refine g_newa (t := 0) (k := 6) (ty := .int) C rfl rfl (g_ra C (t := 0) rfl) (z_tw 63 (by decide +kernel)) (fun _ => rfl) (by decide) (by decide) (by decide) (Nat.le_of_ble_eq_true rfl) (Nat.le_of_ble_eq_true rfl) dX12_init_61 ?_
  show gW (D, ty, h) 44 2 12 p l e _ s m args below meth c _ 8 150 63 [.ref (h + 1), .ref (h + 2), .ref (h + 3), .ref (h + 4), .ref (h + 5), .ref (h + 6), .int 0, .ref (h + 7), .int 0, .null, .null, .null, .null, .null, .int 0, .int 0, .null, .null, .null, .null, .null, .null, .null, .null, .null, .null, .int 0, .null, .null, .int 0, .null, .null, .int 0, .null, .null, .null, .int 0, .null, .int 0, .int 0, .int 0, .null, .null, .null, .null, .null, .null, .null, .null, .null, .null, .null, .null, .null, .long 0] (Zm.tail.take 8) zM0 [.ref (h + 8), .ref h]
  refine g_put (k := 9) (T := TX12) (N := 55) (ty := (.array .int)) C zC12 (by decide) (by decide +kernel) (z_tw 1060 (by decide +kernel)) rfl rfl rfl rfl (by show 9 < 55; decide) (Nat.le_of_ble_eq_true rfl) dX12_init_63 ?_
  show gW (D, ty, h) 44 2 12 p l e _ s m args below meth c _ 8 150 66 [.ref (h + 1), .ref (h + 2), .ref (h + 3), .ref (h + 4), .ref (h + 5), .ref (h + 6), .int 0, .ref (h + 7), .int 0, .ref (h + 8), .null, .null, .null, .null, .int 0, .int 0, .null, .null, .null, .null, .null, .null, .null, .null, .null, .null, .int 0, .null, .null, .int 0, .null, .null, .int 0, .null, .null, .null, .int 0, .null, .int 0, .int 0, .int 0, .null, .null, .null, .null, .null, .null, .null, .null, .null, .null, .null, .null, .null, .long 0] (Zm.tail.take 8) zM0 []
  refine g_aload0 C dX12_init_66 ?_
  refine g_bipush (v := 36) C (by decide) dX12_init_67 ?_
  refine g_newa (t := 0) (k := 36) (ty := .int) C rfl rfl (g_ra C (t := 0) rfl) (z_tw 63 (by decide +kernel)) (fun _ => rfl) (by decide) (by decide) (by decide) (Nat.le_of_ble_eq_true rfl) (Nat.le_of_ble_eq_true rfl) dX12_init_69 ?_
  show gW (D, ty, h) 44 2 12 p l e _ s m args below meth c _ 9 186 71 [.ref (h + 1), .ref (h + 2), .ref (h + 3), .ref (h + 4), .ref (h + 5), .ref (h + 6), .int 0, .ref (h + 7), .int 0, .ref (h + 8), .null, .null, .null, .null, .int 0, .int 0, .null, .null, .null, .null, .null, .null, .null, .null, .null, .null, .int 0, .null, .null, .int 0, .null, .null, .int 0, .null, .null, .null, .int 0, .null, .int 0, .int 0, .int 0, .null, .null, .null, .null, .null, .null, .null, .null, .null, .null, .null, .null, .null, .long 0] (Zm.tail.take 9) zM0 [.ref (h + 9), .ref h]
  refine g_put (k := 10) (T := TX12) (N := 55) (ty := (.array .int)) C zC12 (by decide) (by decide +kernel) (z_tw 1061 (by decide +kernel)) rfl rfl rfl rfl (by show 10 < 55; decide) (Nat.le_of_ble_eq_true rfl) dX12_init_71 ?_
  show gW (D, ty, h) 44 2 12 p l e _ s m args below meth c _ 9 186 74 [.ref (h + 1), .ref (h + 2), .ref (h + 3), .ref (h + 4), .ref (h + 5), .ref (h + 6), .int 0, .ref (h + 7), .int 0, .ref (h + 8), .ref (h + 9), .null, .null, .null, .int 0, .int 0, .null, .null, .null, .null, .null, .null, .null, .null, .null, .null, .int 0, .null, .null, .int 0, .null, .null, .int 0, .null, .null, .null, .int 0, .null, .int 0, .int 0, .int 0, .null, .null, .null, .null, .null, .null, .null, .null, .null, .null, .null, .null, .null, .long 0] (Zm.tail.take 9) zM0 []
  refine g_aload0 C dX12_init_74 ?_
  refine g_bipush (v := 36) C (by decide) dX12_init_75 ?_
  refine g_newa (t := 0) (k := 36) (ty := .int) C rfl rfl (g_ra C (t := 0) rfl) (z_tw 63 (by decide +kernel)) (fun _ => rfl) (by decide) (by decide) (by decide) (Nat.le_of_ble_eq_true rfl) (Nat.le_of_ble_eq_true rfl) dX12_init_77 ?_
  show gW (D, ty, h) 44 2 12 p l e _ s m args below meth c _ 10 222 79 [.ref (h + 1), .ref (h + 2), .ref (h + 3), .ref (h + 4), .ref (h + 5), .ref (h + 6), .int 0, .ref (h + 7), .int 0, .ref (h + 8), .ref (h + 9), .null, .null, .null, .int 0, .int 0, .null, .null, .null, .null, .null, .null, .null, .null, .null, .null, .int 0, .null, .null, .int 0, .null, .null, .int 0, .null, .null, .null, .int 0, .null, .int 0, .int 0, .int 0, .null, .null, .null, .null, .null, .null, .null, .null, .null, .null, .null, .null, .null, .long 0] (Zm.tail.take 10) zM0 [.ref (h + 10), .ref h]
  refine g_put (k := 11) (T := TX12) (N := 55) (ty := (.array .int)) C zC12 (by decide) (by decide +kernel) (z_tw 1062 (by decide +kernel)) rfl rfl rfl rfl (by show 11 < 55; decide) (Nat.le_of_ble_eq_true rfl) dX12_init_79 ?_
  show gW (D, ty, h) 44 2 12 p l e _ s m args below meth c _ 10 222 82 [.ref (h + 1), .ref (h + 2), .ref (h + 3), .ref (h + 4), .ref (h + 5), .ref (h + 6), .int 0, .ref (h + 7), .int 0, .ref (h + 8), .ref (h + 9), .ref (h + 10), .null, .null, .int 0, .int 0, .null, .null, .null, .null, .null, .null, .null, .null, .null, .null, .int 0, .null, .null, .int 0, .null, .null, .int 0, .null, .null, .null, .int 0, .null, .int 0, .int 0, .int 0, .null, .null, .null, .null, .null, .null, .null, .null, .null, .null, .null, .null, .null, .long 0] (Zm.tail.take 10) zM0 []
  refine g_aload0 C dX12_init_82 ?_
  refine g_bipush (v := 6) C (by decide) dX12_init_83 ?_
  refine g_newa (t := 0) (k := 6) (ty := .int) C rfl rfl (g_ra C (t := 0) rfl) (z_tw 63 (by decide +kernel)) (fun _ => rfl) (by decide) (by decide) (by decide) (Nat.le_of_ble_eq_true rfl) (Nat.le_of_ble_eq_true rfl) dX12_init_85 ?_
  show gW (D, ty, h) 44 2 12 p l e _ s m args below meth c _ 11 228 87 [.ref (h + 1), .ref (h + 2), .ref (h + 3), .ref (h + 4), .ref (h + 5), .ref (h + 6), .int 0, .ref (h + 7), .int 0, .ref (h + 8), .ref (h + 9), .ref (h + 10), .null, .null, .int 0, .int 0, .null, .null, .null, .null, .null, .null, .null, .null, .null, .null, .int 0, .null, .null, .int 0, .null, .null, .int 0, .null, .null, .null, .int 0, .null, .int 0, .int 0, .int 0, .null, .null, .null, .null, .null, .null, .null, .null, .null, .null, .null, .null, .null, .long 0] (Zm.tail.take 11) zM0 [.ref (h + 11), .ref h]
  refine g_put (k := 12) (T := TX12) (N := 55) (ty := (.array .int)) C zC12 (by decide) (by decide +kernel) (z_tw 1063 (by decide +kernel)) rfl rfl rfl rfl (by show 12 < 55; decide) (Nat.le_of_ble_eq_true rfl) dX12_init_87 ?_
  show gW (D, ty, h) 44 2 12 p l e _ s m args below meth c _ 11 228 90 [.ref (h + 1), .ref (h + 2), .ref (h + 3), .ref (h + 4), .ref (h + 5), .ref (h + 6), .int 0, .ref (h + 7), .int 0, .ref (h + 8), .ref (h + 9), .ref (h + 10), .ref (h + 11), .null, .int 0, .int 0, .null, .null, .null, .null, .null, .null, .null, .null, .null, .null, .int 0, .null, .null, .int 0, .null, .null, .int 0, .null, .null, .null, .int 0, .null, .int 0, .int 0, .int 0, .null, .null, .null, .null, .null, .null, .null, .null, .null, .null, .null, .null, .null, .long 0] (Zm.tail.take 11) zM0 []
  refine g_aload0 C dX12_init_90 ?_
  refine g_bipush (v := 6) C (by decide) dX12_init_91 ?_
  refine g_newa (t := 0) (k := 6) (ty := .int) C rfl rfl (g_ra C (t := 0) rfl) (z_tw 63 (by decide +kernel)) (fun _ => rfl) (by decide) (by decide) (by decide) (Nat.le_of_ble_eq_true rfl) (Nat.le_of_ble_eq_true rfl) dX12_init_93 ?_
  show gW (D, ty, h) 44 2 12 p l e _ s m args below meth c _ 12 234 95 [.ref (h + 1), .ref (h + 2), .ref (h + 3), .ref (h + 4), .ref (h + 5), .ref (h + 6), .int 0, .ref (h + 7), .int 0, .ref (h + 8), .ref (h + 9), .ref (h + 10), .ref (h + 11), .null, .int 0, .int 0, .null, .null, .null, .null, .null, .null, .null, .null, .null, .null, .int 0, .null, .null, .int 0, .null, .null, .int 0, .null, .null, .null, .int 0, .null, .int 0, .int 0, .int 0, .null, .null, .null, .null, .null, .null, .null, .null, .null, .null, .null, .null, .null, .long 0] (Zm.tail.take 12) zM0 [.ref (h + 12), .ref h]
  refine g_put (k := 13) (T := TX12) (N := 55) (ty := (.array .int)) C zC12 (by decide) (by decide +kernel) (z_tw 1064 (by decide +kernel)) rfl rfl rfl rfl (by show 13 < 55; decide) (Nat.le_of_ble_eq_true rfl) dX12_init_95 ?_
  show gW (D, ty, h) 44 2 12 p l e _ s m args below meth c _ 12 234 98 [.ref (h + 1), .ref (h + 2), .ref (h + 3), .ref (h + 4), .ref (h + 5), .ref (h + 6), .int 0, .ref (h + 7), .int 0, .ref (h + 8), .ref (h + 9), .ref (h + 10), .ref (h + 11), .ref (h + 12), .int 0, .int 0, .null, .null, .null, .null, .null, .null, .null, .null, .null, .null, .int 0, .null, .null, .int 0, .null, .null, .int 0, .null, .null, .null, .int 0, .null, .int 0, .int 0, .int 0, .null, .null, .null, .null, .null, .null, .null, .null, .null, .null, .null, .null, .null, .long 0] (Zm.tail.take 12) zM0 []
  refine g_aload0 C dX12_init_98 ?_
  refine g_bipush (v := 24) C (by decide) dX12_init_99 ?_
  refine g_newa (t := 0) (k := 24) (ty := .int) C rfl rfl (g_ra C (t := 0) rfl) (z_tw 63 (by decide +kernel)) (fun _ => rfl) (by decide) (by decide) (by decide) (Nat.le_of_ble_eq_true rfl) (Nat.le_of_ble_eq_true rfl) dX12_init_101 ?_
  show gW (D, ty, h) 44 2 12 p l e _ s m args below meth c _ 13 258 103 [.ref (h + 1), .ref (h + 2), .ref (h + 3), .ref (h + 4), .ref (h + 5), .ref (h + 6), .int 0, .ref (h + 7), .int 0, .ref (h + 8), .ref (h + 9), .ref (h + 10), .ref (h + 11), .ref (h + 12), .int 0, .int 0, .null, .null, .null, .null, .null, .null, .null, .null, .null, .null, .int 0, .null, .null, .int 0, .null, .null, .int 0, .null, .null, .null, .int 0, .null, .int 0, .int 0, .int 0, .null, .null, .null, .null, .null, .null, .null, .null, .null, .null, .null, .null, .null, .long 0] (Zm.tail.take 13) zM0 [.ref (h + 13), .ref h]
  refine g_put (k := 16) (T := TX12) (N := 55) (ty := (.array .int)) C zC12 (by decide) (by decide +kernel) (z_tw 1067 (by decide +kernel)) rfl rfl rfl rfl (by show 16 < 55; decide) (Nat.le_of_ble_eq_true rfl) dX12_init_103 ?_
  show gW (D, ty, h) 44 2 12 p l e _ s m args below meth c _ 13 258 106 [.ref (h + 1), .ref (h + 2), .ref (h + 3), .ref (h + 4), .ref (h + 5), .ref (h + 6), .int 0, .ref (h + 7), .int 0, .ref (h + 8), .ref (h + 9), .ref (h + 10), .ref (h + 11), .ref (h + 12), .int 0, .int 0, .ref (h + 13), .null, .null, .null, .null, .null, .null, .null, .null, .null, .int 0, .null, .null, .int 0, .null, .null, .int 0, .null, .null, .null, .int 0, .null, .int 0, .int 0, .int 0, .null, .null, .null, .null, .null, .null, .null, .null, .null, .null, .null, .null, .null, .long 0] (Zm.tail.take 13) zM0 []
  refine g_aload0 C dX12_init_106 ?_
  refine g_bipush (v := 24) C (by decide) dX12_init_107 ?_
  refine g_newa (t := 0) (k := 24) (ty := .int) C rfl rfl (g_ra C (t := 0) rfl) (z_tw 63 (by decide +kernel)) (fun _ => rfl) (by decide) (by decide) (by decide) (Nat.le_of_ble_eq_true rfl) (Nat.le_of_ble_eq_true rfl) dX12_init_109 ?_
  show gW (D, ty, h) 44 2 12 p l e _ s m args below meth c _ 14 282 111 [.ref (h + 1), .ref (h + 2), .ref (h + 3), .ref (h + 4), .ref (h + 5), .ref (h + 6), .int 0, .ref (h + 7), .int 0, .ref (h + 8), .ref (h + 9), .ref (h + 10), .ref (h + 11), .ref (h + 12), .int 0, .int 0, .ref (h + 13), .null, .null, .null, .null, .null, .null, .null, .null, .null, .int 0, .null, .null, .int 0, .null, .null, .int 0, .null, .null, .null, .int 0, .null, .int 0, .int 0, .int 0, .null, .null, .null, .null, .null, .null, .null, .null, .null, .null, .null, .null, .null, .long 0] (Zm.tail.take 14) zM0 [.ref (h + 14), .ref h]
  refine g_put (k := 17) (T := TX12) (N := 55) (ty := (.array .int)) C zC12 (by decide) (by decide +kernel) (z_tw 1068 (by decide +kernel)) rfl rfl rfl rfl (by show 17 < 55; decide) (Nat.le_of_ble_eq_true rfl) dX12_init_111 ?_
  show gW (D, ty, h) 44 2 12 p l e _ s m args below meth c _ 14 282 114 [.ref (h + 1), .ref (h + 2), .ref (h + 3), .ref (h + 4), .ref (h + 5), .ref (h + 6), .int 0, .ref (h + 7), .int 0, .ref (h + 8), .ref (h + 9), .ref (h + 10), .ref (h + 11), .ref (h + 12), .int 0, .int 0, .ref (h + 13), .ref (h + 14), .null, .null, .null, .null, .null, .null, .null, .null, .int 0, .null, .null, .int 0, .null, .null, .int 0, .null, .null, .null, .int 0, .null, .int 0, .int 0, .int 0, .null, .null, .null, .null, .null, .null, .null, .null, .null, .null, .null, .null, .null, .long 0] (Zm.tail.take 14) zM0 []
  refine g_aload0 C dX12_init_114 ?_
  refine g_bipush (v := 24) C (by decide) dX12_init_115 ?_
  refine g_newa (t := 0) (k := 24) (ty := .int) C rfl rfl (g_ra C (t := 0) rfl) (z_tw 63 (by decide +kernel)) (fun _ => rfl) (by decide) (by decide) (by decide) (Nat.le_of_ble_eq_true rfl) (Nat.le_of_ble_eq_true rfl) dX12_init_117 ?_
  show gW (D, ty, h) 44 2 12 p l e _ s m args below meth c _ 15 306 119 [.ref (h + 1), .ref (h + 2), .ref (h + 3), .ref (h + 4), .ref (h + 5), .ref (h + 6), .int 0, .ref (h + 7), .int 0, .ref (h + 8), .ref (h + 9), .ref (h + 10), .ref (h + 11), .ref (h + 12), .int 0, .int 0, .ref (h + 13), .ref (h + 14), .null, .null, .null, .null, .null, .null, .null, .null, .int 0, .null, .null, .int 0, .null, .null, .int 0, .null, .null, .null, .int 0, .null, .int 0, .int 0, .int 0, .null, .null, .null, .null, .null, .null, .null, .null, .null, .null, .null, .null, .null, .long 0] (Zm.tail.take 15) zM0 [.ref (h + 15), .ref h]
  refine g_put (k := 18) (T := TX12) (N := 55) (ty := (.array .int)) C zC12 (by decide) (by decide +kernel) (z_tw 1069 (by decide +kernel)) rfl rfl rfl rfl (by show 18 < 55; decide) (Nat.le_of_ble_eq_true rfl) dX12_init_119 ?_
  show gW (D, ty, h) 44 2 12 p l e _ s m args below meth c _ 15 306 122 [.ref (h + 1), .ref (h + 2), .ref (h + 3), .ref (h + 4), .ref (h + 5), .ref (h + 6), .int 0, .ref (h + 7), .int 0, .ref (h + 8), .ref (h + 9), .ref (h + 10), .ref (h + 11), .ref (h + 12), .int 0, .int 0, .ref (h + 13), .ref (h + 14), .ref (h + 15), .null, .null, .null, .null, .null, .null, .null, .int 0, .null, .null, .int 0, .null, .null, .int 0, .null, .null, .null, .int 0, .null, .int 0, .int 0, .int 0, .null, .null, .null, .null, .null, .null, .null, .null, .null, .null, .null, .null, .null, .long 0] (Zm.tail.take 15) zM0 []
  refine g_aload0 C dX12_init_122 ?_
  refine g_bipush (v := 72) C (by decide) dX12_init_123 ?_
  refine g_newa (t := 0) (k := 72) (ty := .int) C rfl rfl (g_ra C (t := 0) rfl) (z_tw 63 (by decide +kernel)) (fun _ => rfl) (by decide) (by decide) (by decide) (Nat.le_of_ble_eq_true rfl) (Nat.le_of_ble_eq_true rfl) dX12_init_125 ?_
  show gW (D, ty, h) 44 2 12 p l e _ s m args below meth c _ 16 378 127 [.ref (h + 1), .ref (h + 2), .ref (h + 3), .ref (h + 4), .ref (h + 5), .ref (h + 6), .int 0, .ref (h + 7), .int 0, .ref (h + 8), .ref (h + 9), .ref (h + 10), .ref (h + 11), .ref (h + 12), .int 0, .int 0, .ref (h + 13), .ref (h + 14), .ref (h + 15), .null, .null, .null, .null, .null, .null, .null, .int 0, .null, .null, .int 0, .null, .null, .int 0, .null, .null, .null, .int 0, .null, .int 0, .int 0, .int 0, .null, .null, .null, .null, .null, .null, .null, .null, .null, .null, .null, .null, .null, .long 0] (Zm.tail.take 16) zM0 [.ref (h + 16), .ref h]
  refine g_put (k := 19) (T := TX12) (N := 55) (ty := (.array .int)) C zC12 (by decide) (by decide +kernel) (z_tw 1070 (by decide +kernel)) rfl rfl rfl rfl (by show 19 < 55; decide) (Nat.le_of_ble_eq_true rfl) dX12_init_127 ?_
  show gW (D, ty, h) 44 2 12 p l e _ s m args below meth c _ 16 378 130 [.ref (h + 1), .ref (h + 2), .ref (h + 3), .ref (h + 4), .ref (h + 5), .ref (h + 6), .int 0, .ref (h + 7), .int 0, .ref (h + 8), .ref (h + 9), .ref (h + 10), .ref (h + 11), .ref (h + 12), .int 0, .int 0, .ref (h + 13), .ref (h + 14), .ref (h + 15), .ref (h + 16), .null, .null, .null, .null, .null, .null, .int 0, .null, .null, .int 0, .null, .null, .int 0, .null, .null, .null, .int 0, .null, .int 0, .int 0, .int 0, .null, .null, .null, .null, .null, .null, .null, .null, .null, .null, .null, .null, .null, .long 0] (Zm.tail.take 16) zM0 []
  refine g_aload0 C dX12_init_130 ?_
  refine g_bipush (v := 72) C (by decide) dX12_init_131 ?_
  refine g_newa (t := 0) (k := 72) (ty := .int) C rfl rfl (g_ra C (t := 0) rfl) (z_tw 63 (by decide +kernel)) (fun _ => rfl) (by decide) (by decide) (by decide) (Nat.le_of_ble_eq_true rfl) (Nat.le_of_ble_eq_true rfl) dX12_init_133 ?_
  show gW (D, ty, h) 44 2 12 p l e _ s m args below meth c _ 17 450 135 [.ref (h + 1), .ref (h + 2), .ref (h + 3), .ref (h + 4), .ref (h + 5), .ref (h + 6), .int 0, .ref (h + 7), .int 0, .ref (h + 8), .ref (h + 9), .ref (h + 10), .ref (h + 11), .ref (h + 12), .int 0, .int 0, .ref (h + 13), .ref (h + 14), .ref (h + 15), .ref (h + 16), .null, .null, .null, .null, .null, .null, .int 0, .null, .null, .int 0, .null, .null, .int 0, .null, .null, .null, .int 0, .null, .int 0, .int 0, .int 0, .null, .null, .null, .null, .null, .null, .null, .null, .null, .null, .null, .null, .null, .long 0] (Zm.tail.take 17) zM0 [.ref (h + 17), .ref h]
  refine g_put (k := 20) (T := TX12) (N := 55) (ty := (.array .int)) C zC12 (by decide) (by decide +kernel) (z_tw 1071 (by decide +kernel)) rfl rfl rfl rfl (by show 20 < 55; decide) (Nat.le_of_ble_eq_true rfl) dX12_init_135 ?_
  show gW (D, ty, h) 44 2 12 p l e _ s m args below meth c _ 17 450 138 [.ref (h + 1), .ref (h + 2), .ref (h + 3), .ref (h + 4), .ref (h + 5), .ref (h + 6), .int 0, .ref (h + 7), .int 0, .ref (h + 8), .ref (h + 9), .ref (h + 10), .ref (h + 11), .ref (h + 12), .int 0, .int 0, .ref (h + 13), .ref (h + 14), .ref (h + 15), .ref (h + 16), .ref (h + 17), .null, .null, .null, .null, .null, .int 0, .null, .null, .int 0, .null, .null, .int 0, .null, .null, .null, .int 0, .null, .int 0, .int 0, .int 0, .null, .null, .null, .null, .null, .null, .null, .null, .null, .null, .null, .null, .null, .long 0] (Zm.tail.take 17) zM0 []
  refine g_aload0 C dX12_init_138 ?_
  refine g_bipush (v := 48) C (by decide) dX12_init_139 ?_
  refine g_newa (t := 0) (k := 48) (ty := .int) C rfl rfl (g_ra C (t := 0) rfl) (z_tw 63 (by decide +kernel)) (fun _ => rfl) (by decide) (by decide) (by decide) (Nat.le_of_ble_eq_true rfl) (Nat.le_of_ble_eq_true rfl) dX12_init_141 ?_
  show gW (D, ty, h) 44 2 12 p l e _ s m args below meth c _ 18 498 143 [.ref (h + 1), .ref (h + 2), .ref (h + 3), .ref (h + 4), .ref (h + 5), .ref (h + 6), .int 0, .ref (h + 7), .int 0, .ref (h + 8), .ref (h + 9), .ref (h + 10), .ref (h + 11), .ref (h + 12), .int 0, .int 0, .ref (h + 13), .ref (h + 14), .ref (h + 15), .ref (h + 16), .ref (h + 17), .null, .null, .null, .null, .null, .int 0, .null, .null, .int 0, .null, .null, .int 0, .null, .null, .null, .int 0, .null, .int 0, .int 0, .int 0, .null, .null, .null, .null, .null, .null, .null, .null, .null, .null, .null, .null, .null, .long 0] (Zm.tail.take 18) zM0 [.ref (h + 18), .ref h]
  refine g_put (k := 21) (T := TX12) (N := 55) (ty := (.array .int)) C zC12 (by decide) (by decide +kernel) (z_tw 1072 (by decide +kernel)) rfl rfl rfl rfl (by show 21 < 55; decide) (Nat.le_of_ble_eq_true rfl) dX12_init_143 ?_
  show gW (D, ty, h) 44 2 12 p l e _ s m args below meth c _ 18 498 146 [.ref (h + 1), .ref (h + 2), .ref (h + 3), .ref (h + 4), .ref (h + 5), .ref (h + 6), .int 0, .ref (h + 7), .int 0, .ref (h + 8), .ref (h + 9), .ref (h + 10), .ref (h + 11), .ref (h + 12), .int 0, .int 0, .ref (h + 13), .ref (h + 14), .ref (h + 15), .ref (h + 16), .ref (h + 17), .ref (h + 18), .null, .null, .null, .null, .int 0, .null, .null, .int 0, .null, .null, .int 0, .null, .null, .null, .int 0, .null, .int 0, .int 0, .int 0, .null, .null, .null, .null, .null, .null, .null, .null, .null, .null, .null, .null, .null, .long 0] (Zm.tail.take 18) zM0 []
  refine g_aload0 C dX12_init_146 ?_
  refine g_bipush (v := 6) C (by decide) dX12_init_147 ?_
  refine g_newa (t := 0) (k := 6) (ty := .int) C rfl rfl (g_ra C (t := 0) rfl) (z_tw 63 (by decide +kernel)) (fun _ => rfl) (by decide) (by decide) (by decide) (Nat.le_of_ble_eq_true rfl) (Nat.le_of_ble_eq_true rfl) dX12_init_149 ?_
  show gW (D, ty, h) 44 2 12 p l e _ s m args below meth c _ 19 504 151 [.ref (h + 1), .ref (h + 2), .ref (h + 3), .ref (h + 4), .ref (h + 5), .ref (h + 6), .int 0, .ref (h + 7), .int 0, .ref (h + 8), .ref (h + 9), .ref (h + 10), .ref (h + 11), .ref (h + 12), .int 0, .int 0, .ref (h + 13), .ref (h + 14), .ref (h + 15), .ref (h + 16), .ref (h + 17), .ref (h + 18), .null, .null, .null, .null, .int 0, .null, .null, .int 0, .null, .null, .int 0, .null, .null, .null, .int 0, .null, .int 0, .int 0, .int 0, .null, .null, .null, .null, .null, .null, .null, .null, .null, .null, .null, .null, .null, .long 0] (Zm.tail.take 19) zM0 [.ref (h + 19), .ref h]
  refine g_put (k := 22) (T := TX12) (N := 55) (ty := (.array .int)) C zC12 (by decide) (by decide +kernel) (z_tw 1073 (by decide +kernel)) rfl rfl rfl rfl (by show 22 < 55; decide) (Nat.le_of_ble_eq_true rfl) dX12_init_151 ?_
  show gW (D, ty, h) 44 2 12 p l e _ s m args below meth c _ 19 504 154 [.ref (h + 1), .ref (h + 2), .ref (h + 3), .ref (h + 4), .ref (h + 5), .ref (h + 6), .int 0, .ref (h + 7), .int 0, .ref (h + 8), .ref (h + 9), .ref (h + 10), .ref (h + 11), .ref (h + 12), .int 0, .int 0, .ref (h + 13), .ref (h + 14), .ref (h + 15), .ref (h + 16), .ref (h + 17), .ref (h + 18), .ref (h + 19), .null, .null, .null, .int 0, .null, .null, .int 0, .null, .null, .int 0, .null, .null, .null, .int 0, .null, .int 0, .int 0, .int 0, .null, .null, .null, .null, .null, .null, .null, .null, .null, .null, .null, .null, .null, .long 0] (Zm.tail.take 19) zM0 []
  refine g_aload0 C dX12_init_154 ?_
  refine g_iconst (v := 4) C (by decide) dX12_init_155 ?_
  refine g_newa (t := 0) (k := 4) (ty := .int) C rfl rfl (g_ra C (t := 0) rfl) (z_tw 63 (by decide +kernel)) (fun _ => rfl) (by decide) (by decide) (by decide) (Nat.le_of_ble_eq_true rfl) (Nat.le_of_ble_eq_true rfl) dX12_init_156 ?_
  show gW (D, ty, h) 44 2 12 p l e _ s m args below meth c _ 20 508 158 [.ref (h + 1), .ref (h + 2), .ref (h + 3), .ref (h + 4), .ref (h + 5), .ref (h + 6), .int 0, .ref (h + 7), .int 0, .ref (h + 8), .ref (h + 9), .ref (h + 10), .ref (h + 11), .ref (h + 12), .int 0, .int 0, .ref (h + 13), .ref (h + 14), .ref (h + 15), .ref (h + 16), .ref (h + 17), .ref (h + 18), .ref (h + 19), .null, .null, .null, .int 0, .null, .null, .int 0, .null, .null, .int 0, .null, .null, .null, .int 0, .null, .int 0, .int 0, .int 0, .null, .null, .null, .null, .null, .null, .null, .null, .null, .null, .null, .null, .null, .long 0] (Zm.tail.take 20) zM0 [.ref (h + 20), .ref h]
  refine g_put (k := 23) (T := TX12) (N := 55) (ty := (.array .int)) C zC12 (by decide) (by decide +kernel) (z_tw 1074 (by decide +kernel)) rfl rfl rfl rfl (by show 23 < 55; decide) (Nat.le_of_ble_eq_true rfl) dX12_init_158 ?_
  show gW (D, ty, h) 44 2 12 p l e _ s m args below meth c _ 20 508 161 [.ref (h + 1), .ref (h + 2), .ref (h + 3), .ref (h + 4), .ref (h + 5), .ref (h + 6), .int 0, .ref (h + 7), .int 0, .ref (h + 8), .ref (h + 9), .ref (h + 10), .ref (h + 11), .ref (h + 12), .int 0, .int 0, .ref (h + 13), .ref (h + 14), .ref (h + 15), .ref (h + 16), .ref (h + 17), .ref (h + 18), .ref (h + 19), .ref (h + 20), .null, .null, .int 0, .null, .null, .int 0, .null, .null, .int 0, .null, .null, .null, .int 0, .null, .int 0, .int 0, .int 0, .null, .null, .null, .null, .null, .null, .null, .null, .null, .null, .null, .null, .null, .long 0] (Zm.tail.take 20) zM0 []
  refine g_aload0 C dX12_init_161 ?_
  refine g_bipush (v := 32) C (by decide) dX12_init_162 ?_
  refine g_newa (t := 0) (k := 32) (ty := .int) C rfl rfl (g_ra C (t := 0) rfl) (z_tw 63 (by decide +kernel)) (fun _ => rfl) (by decide) (by decide) (by decide) (Nat.le_of_ble_eq_true rfl) (Nat.le_of_ble_eq_true rfl) dX12_init_164 ?_
  show gW (D, ty, h) 44 2 12 p l e _ s m args below meth c _ 21 540 166 [.ref (h + 1), .ref (h + 2), .ref (h + 3), .ref (h + 4), .ref (h + 5), .ref (h + 6), .int 0, .ref (h + 7), .int 0, .ref (h + 8), .ref (h + 9), .ref (h + 10), .ref (h + 11), .ref (h + 12), .int 0, .int 0, .ref (h + 13), .ref (h + 14), .ref (h + 15), .ref (h + 16), .ref (h + 17), .ref (h + 18), .ref (h + 19), .ref (h + 20), .null, .null, .int 0, .null, .null, .int 0, .null, .null, .int 0, .null, .null, .null, .int 0, .null, .int 0, .int 0, .int 0, .null, .null, .null, .null, .null, .null, .null, .null, .null, .null, .null, .null, .null, .long 0] (Zm.tail.take 21) zM0 [.ref (h + 21), .ref h]
  refine g_put (k := 24) (T := TX12) (N := 55) (ty := (.array .int)) C zC12 (by decide) (by decide +kernel) (z_tw 1075 (by decide +kernel)) rfl rfl rfl rfl (by show 24 < 55; decide) (Nat.le_of_ble_eq_true rfl) dX12_init_166 ?_
  show gW (D, ty, h) 44 2 12 p l e _ s m args below meth c _ 21 540 169 [.ref (h + 1), .ref (h + 2), .ref (h + 3), .ref (h + 4), .ref (h + 5), .ref (h + 6), .int 0, .ref (h + 7), .int 0, .ref (h + 8), .ref (h + 9), .ref (h + 10), .ref (h + 11), .ref (h + 12), .int 0, .int 0, .ref (h + 13), .ref (h + 14), .ref (h + 15), .ref (h + 16), .ref (h + 17), .ref (h + 18), .ref (h + 19), .ref (h + 20), .ref (h + 21), .null, .int 0, .null, .null, .int 0, .null, .null, .int 0, .null, .null, .null, .int 0, .null, .int 0, .int 0, .int 0, .null, .null, .null, .null, .null, .null, .null, .null, .null, .null, .null, .null, .null, .long 0] (Zm.tail.take 21) zM0 []
  refine g_aload0 C dX12_init_169 ?_
  refine g_bipush (v := 32) C (by decide) dX12_init_170 ?_
  refine g_newa (t := 0) (k := 32) (ty := .int) C rfl rfl (g_ra C (t := 0) rfl) (z_tw 63 (by decide +kernel)) (fun _ => rfl) (by decide) (by decide) (by decide) (Nat.le_of_ble_eq_true rfl) (Nat.le_of_ble_eq_true rfl) dX12_init_172 ?_
  show gW (D, ty, h) 44 2 12 p l e _ s m args below meth c _ 22 572 174 [.ref (h + 1), .ref (h + 2), .ref (h + 3), .ref (h + 4), .ref (h + 5), .ref (h + 6), .int 0, .ref (h + 7), .int 0, .ref (h + 8), .ref (h + 9), .ref (h + 10), .ref (h + 11), .ref (h + 12), .int 0, .int 0, .ref (h + 13), .ref (h + 14), .ref (h + 15), .ref (h + 16), .ref (h + 17), .ref (h + 18), .ref (h + 19), .ref (h + 20), .ref (h + 21), .null, .int 0, .null, .null, .int 0, .null, .null, .int 0, .null, .null, .null, .int 0, .null, .int 0, .int 0, .int 0, .null, .null, .null, .null, .null, .null, .null, .null, .null, .null, .null, .null, .null, .long 0] (Zm.tail.take 22) zM0 [.ref (h + 22), .ref h]
  refine g_put (k := 25) (T := TX12) (N := 55) (ty := (.array .int)) C zC12 (by decide) (by decide +kernel) (z_tw 1076 (by decide +kernel)) rfl rfl rfl rfl (by show 25 < 55; decide) (Nat.le_of_ble_eq_true rfl) dX12_init_174 ?_
  show gW (D, ty, h) 44 2 12 p l e _ s m args below meth c _ 22 572 177 [.ref (h + 1), .ref (h + 2), .ref (h + 3), .ref (h + 4), .ref (h + 5), .ref (h + 6), .int 0, .ref (h + 7), .int 0, .ref (h + 8), .ref (h + 9), .ref (h + 10), .ref (h + 11), .ref (h + 12), .int 0, .int 0, .ref (h + 13), .ref (h + 14), .ref (h + 15), .ref (h + 16), .ref (h + 17), .ref (h + 18), .ref (h + 19), .ref (h + 20), .ref (h + 21), .ref (h + 22), .int 0, .null, .null, .int 0, .null, .null, .int 0, .null, .null, .null, .int 0, .null, .int 0, .int 0, .int 0, .null, .null, .null, .null, .null, .null, .null, .null, .null, .null, .null, .null, .null, .long 0] (Zm.tail.take 22) zM0 []
  refine g_aload0 C dX12_init_177 ?_
  refine g_bipush (v := 6) C (by decide) dX12_init_178 ?_
  refine g_newa (t := 0) (k := 6) (ty := .int) C rfl rfl (g_ra C (t := 0) rfl) (z_tw 63 (by decide +kernel)) (fun _ => rfl) (by decide) (by decide) (by decide) (Nat.le_of_ble_eq_true rfl) (Nat.le_of_ble_eq_true rfl) dX12_init_180 ?_
  show gW (D, ty, h) 44 2 12 p l e _ s m args below meth c _ 23 578 182 [.ref (h + 1), .ref (h + 2), .ref (h + 3), .ref (h + 4), .ref (h + 5), .ref (h + 6), .int 0, .ref (h + 7), .int 0, .ref (h + 8), .ref (h + 9), .ref (h + 10), .ref (h + 11), .ref (h + 12), .int 0, .int 0, .ref (h + 13), .ref (h + 14), .ref (h + 15), .ref (h + 16), .ref (h + 17), .ref (h + 18), .ref (h + 19), .ref (h + 20), .ref (h + 21), .ref (h + 22), .int 0, .null, .null, .int 0, .null, .null, .int 0, .null, .null, .null, .int 0, .null, .int 0, .int 0, .int 0, .null, .null, .null, .null, .null, .null, .null, .null, .null, .null, .null, .null, .null, .long 0] (Zm.tail.take 23) zM0 [.ref (h + 23), .ref h]
  refine g_put (k := 27) (T := TX12) (N := 55) (ty := (.array .int)) C zC12 (by decide) (by decide +kernel) (z_tw 1078 (by decide +kernel)) rfl rfl rfl rfl (by show 27 < 55; decide) (Nat.le_of_ble_eq_true rfl) dX12_init_182 ?_
  show gW (D, ty, h) 44 2 12 p l e _ s m args below meth c _ 23 578 185 [.ref (h + 1), .ref (h + 2), .ref (h + 3), .ref (h + 4), .ref (h + 5), .ref (h + 6), .int 0, .ref (h + 7), .int 0, .ref (h + 8), .ref (h + 9), .ref (h + 10), .ref (h + 11), .ref (h + 12), .int 0, .int 0, .ref (h + 13), .ref (h + 14), .ref (h + 15), .ref (h + 16), .ref (h + 17), .ref (h + 18), .ref (h + 19), .ref (h + 20), .ref (h + 21), .ref (h + 22), .int 0, .ref (h + 23), .null, .int 0, .null, .null, .int 0, .null, .null, .null, .int 0, .null, .int 0, .int 0, .int 0, .null, .null, .null, .null, .null, .null, .null, .null, .null, .null, .null, .null, .null, .long 0] (Zm.tail.take 23) zM0 []
  refine g_aload0 C dX12_init_185 ?_
  refine g_bipush (v := 6) C (by decide) dX12_init_186 ?_
  refine g_newa (t := 0) (k := 6) (ty := .int) C rfl rfl (g_ra C (t := 0) rfl) (z_tw 63 (by decide +kernel)) (fun _ => rfl) (by decide) (by decide) (by decide) (Nat.le_of_ble_eq_true rfl) (Nat.le_of_ble_eq_true rfl) dX12_init_188 ?_
  show gW (D, ty, h) 44 2 12 p l e _ s m args below meth c _ 24 584 190 [.ref (h + 1), .ref (h + 2), .ref (h + 3), .ref (h + 4), .ref (h + 5), .ref (h + 6), .int 0, .ref (h + 7), .int 0, .ref (h + 8), .ref (h + 9), .ref (h + 10), .ref (h + 11), .ref (h + 12), .int 0, .int 0, .ref (h + 13), .ref (h + 14), .ref (h + 15), .ref (h + 16), .ref (h + 17), .ref (h + 18), .ref (h + 19), .ref (h + 20), .ref (h + 21), .ref (h + 22), .int 0, .ref (h + 23), .null, .int 0, .null, .null, .int 0, .null, .null, .null, .int 0, .null, .int 0, .int 0, .int 0, .null, .null, .null, .null, .null, .null, .null, .null, .null, .null, .null, .null, .null, .long 0] (Zm.tail.take 24) zM0 [.ref (h + 24), .ref h]
  refine g_put (k := 28) (T := TX12) (N := 55) (ty := (.array .int)) C zC12 (by decide) (by decide +kernel) (z_tw 1079 (by decide +kernel)) rfl rfl rfl rfl (by show 28 < 55; decide) (Nat.le_of_ble_eq_true rfl) dX12_init_190 ?_
  show gW (D, ty, h) 44 2 12 p l e _ s m args below meth c _ 24 584 193 [.ref (h + 1), .ref (h + 2), .ref (h + 3), .ref (h + 4), .ref (h + 5), .ref (h + 6), .int 0, .ref (h + 7), .int 0, .ref (h + 8), .ref (h + 9), .ref (h + 10), .ref (h + 11), .ref (h + 12), .int 0, .int 0, .ref (h + 13), .ref (h + 14), .ref (h + 15), .ref (h + 16), .ref (h + 17), .ref (h + 18), .ref (h + 19), .ref (h + 20), .ref (h + 21), .ref (h + 22), .int 0, .ref (h + 23), .ref (h + 24), .int 0, .null, .null, .int 0, .null, .null, .null, .int 0, .null, .int 0, .int 0, .int 0, .null, .null, .null, .null, .null, .null, .null, .null, .null, .null, .null, .null, .null, .long 0] (Zm.tail.take 24) zM0 []
  refine g_aload0 C dX12_init_193 ?_
  refine g_iconst (v := 4) C (by decide) dX12_init_194 ?_
  refine g_newa (t := 0) (k := 4) (ty := .int) C rfl rfl (g_ra C (t := 0) rfl) (z_tw 63 (by decide +kernel)) (fun _ => rfl) (by decide) (by decide) (by decide) (Nat.le_of_ble_eq_true rfl) (Nat.le_of_ble_eq_true rfl) dX12_init_195 ?_
  show gW (D, ty, h) 44 2 12 p l e _ s m args below meth c _ 25 588 197 [.ref (h + 1), .ref (h + 2), .ref (h + 3), .ref (h + 4), .ref (h + 5), .ref (h + 6), .int 0, .ref (h + 7), .int 0, .ref (h + 8), .ref (h + 9), .ref (h + 10), .ref (h + 11), .ref (h + 12), .int 0, .int 0, .ref (h + 13), .ref (h + 14), .ref (h + 15), .ref (h + 16), .ref (h + 17), .ref (h + 18), .ref (h + 19), .ref (h + 20), .ref (h + 21), .ref (h + 22), .int 0, .ref (h + 23), .ref (h + 24), .int 0, .null, .null, .int 0, .null, .null, .null, .int 0, .null, .int 0, .int 0, .int 0, .null, .null, .null, .null, .null, .null, .null, .null, .null, .null, .null, .null, .null, .long 0] (Zm.tail.take 25) zM0 [.ref (h + 25), .ref h]
  refine g_put (k := 30) (T := TX12) (N := 55) (ty := (.array .int)) C zC12 (by decide) (by decide +kernel) (z_tw 1081 (by decide +kernel)) rfl rfl rfl rfl (by show 30 < 55; decide) (Nat.le_of_ble_eq_true rfl) dX12_init_197 ?_
  show gW (D, ty, h) 44 2 12 p l e _ s m args below meth c _ 25 588 200 [.ref (h + 1), .ref (h + 2), .ref (h + 3), .ref (h + 4), .ref (h + 5), .ref (h + 6), .int 0, .ref (h + 7), .int 0, .ref (h + 8), .ref (h + 9), .ref (h + 10), .ref (h + 11), .ref (h + 12), .int 0, .int 0, .ref (h + 13), .ref (h + 14), .ref (h + 15), .ref (h + 16), .ref (h + 17), .ref (h + 18), .ref (h + 19), .ref (h + 20), .ref (h + 21), .ref (h + 22), .int 0, .ref (h + 23), .ref (h + 24), .int 0, .ref (h + 25), .null, .int 0, .null, .null, .null, .int 0, .null, .int 0, .int 0, .int 0, .null, .null, .null, .null, .null, .null, .null, .null, .null, .null, .null, .null, .null, .long 0] (Zm.tail.take 25) zM0 []
  refine g_aload0 C dX12_init_200 ?_
  refine g_bipush (v := 64) C (by decide) dX12_init_201 ?_
  refine g_newa (t := 0) (k := 64) (ty := .int) C rfl rfl (g_ra C (t := 0) rfl) (z_tw 63 (by decide +kernel)) (fun _ => rfl) (by decide) (by decide) (by decide) (Nat.le_of_ble_eq_true rfl) (Nat.le_of_ble_eq_true rfl) dX12_init_203 ?_
  show gW (D, ty, h) 44 2 12 p l e _ s m args below meth c _ 26 652 205 [.ref (h + 1), .ref (h + 2), .ref (h + 3), .ref (h + 4), .ref (h + 5), .ref (h + 6), .int 0, .ref (h + 7), .int 0, .ref (h + 8), .ref (h + 9), .ref (h + 10), .ref (h + 11), .ref (h + 12), .int 0, .int 0, .ref (h + 13), .ref (h + 14), .ref (h + 15), .ref (h + 16), .ref (h + 17), .ref (h + 18), .ref (h + 19), .ref (h + 20), .ref (h + 21), .ref (h + 22), .int 0, .ref (h + 23), .ref (h + 24), .int 0, .ref (h + 25), .null, .int 0, .null, .null, .null, .int 0, .null, .int 0, .int 0, .int 0, .null, .null, .null, .null, .null, .null, .null, .null, .null, .null, .null, .null, .null, .long 0] (Zm.tail.take 26) zM0 [.ref (h + 26), .ref h]
  refine g_put (k := 31) (T := TX12) (N := 55) (ty := (.array .int)) C zC12 (by decide) (by decide +kernel) (z_tw 1082 (by decide +kernel)) rfl rfl rfl rfl (by show 31 < 55; decide) (Nat.le_of_ble_eq_true rfl) dX12_init_205 ?_
  show gW (D, ty, h) 44 2 12 p l e _ s m args below meth c _ 26 652 208 [.ref (h + 1), .ref (h + 2), .ref (h + 3), .ref (h + 4), .ref (h + 5), .ref (h + 6), .int 0, .ref (h + 7), .int 0, .ref (h + 8), .ref (h + 9), .ref (h + 10), .ref (h + 11), .ref (h + 12), .int 0, .int 0, .ref (h + 13), .ref (h + 14), .ref (h + 15), .ref (h + 16), .ref (h + 17), .ref (h + 18), .ref (h + 19), .ref (h + 20), .ref (h + 21), .ref (h + 22), .int 0, .ref (h + 23), .ref (h + 24), .int 0, .ref (h + 25), .ref (h + 26), .int 0, .null, .null, .null, .int 0, .null, .int 0, .int 0, .int 0, .null, .null, .null, .null, .null, .null, .null, .null, .null, .null, .null, .null, .null, .long 0] (Zm.tail.take 26) zM0 []
  refine g_aload0 C dX12_init_208 ?_
  refine g_bipush (v := 6) C (by decide) dX12_init_209 ?_
  refine g_newa (t := 0) (k := 6) (ty := .int) C rfl rfl (g_ra C (t := 0) rfl) (z_tw 63 (by decide +kernel)) (fun _ => rfl) (by decide) (by decide) (by decide) (Nat.le_of_ble_eq_true rfl) (Nat.le_of_ble_eq_true rfl) dX12_init_211 ?_
  show gW (D, ty, h) 44 2 12 p l e _ s m args below meth c _ 27 658 213 [.ref (h + 1), .ref (h + 2), .ref (h + 3), .ref (h + 4), .ref (h + 5), .ref (h + 6), .int 0, .ref (h + 7), .int 0, .ref (h + 8), .ref (h + 9), .ref (h + 10), .ref (h + 11), .ref (h + 12), .int 0, .int 0, .ref (h + 13), .ref (h + 14), .ref (h + 15), .ref (h + 16), .ref (h + 17), .ref (h + 18), .ref (h + 19), .ref (h + 20), .ref (h + 21), .ref (h + 22), .int 0, .ref (h + 23), .ref (h + 24), .int 0, .ref (h + 25), .ref (h + 26), .int 0, .null, .null, .null, .int 0, .null, .int 0, .int 0, .int 0, .null, .null, .null, .null, .null, .null, .null, .null, .null, .null, .null, .null, .null, .long 0] (Zm.tail.take 27) zM0 [.ref (h + 27), .ref h]
  refine g_put (k := 33) (T := TX12) (N := 55) (ty := (.array .int)) C zC12 (by decide) (by decide +kernel) (z_tw 1084 (by decide +kernel)) rfl rfl rfl rfl (by show 33 < 55; decide) (Nat.le_of_ble_eq_true rfl) dX12_init_213 ?_
  show gW (D, ty, h) 44 2 12 p l e _ s m args below meth c _ 27 658 216 [.ref (h + 1), .ref (h + 2), .ref (h + 3), .ref (h + 4), .ref (h + 5), .ref (h + 6), .int 0, .ref (h + 7), .int 0, .ref (h + 8), .ref (h + 9), .ref (h + 10), .ref (h + 11), .ref (h + 12), .int 0, .int 0, .ref (h + 13), .ref (h + 14), .ref (h + 15), .ref (h + 16), .ref (h + 17), .ref (h + 18), .ref (h + 19), .ref (h + 20), .ref (h + 21), .ref (h + 22), .int 0, .ref (h + 23), .ref (h + 24), .int 0, .ref (h + 25), .ref (h + 26), .int 0, .ref (h + 27), .null, .null, .int 0, .null, .int 0, .int 0, .int 0, .null, .null, .null, .null, .null, .null, .null, .null, .null, .null, .null, .null, .null, .long 0] (Zm.tail.take 27) zM0 []
  refine g_aload0 C dX12_init_216 ?_
  refine g_bipush (v := 24) C (by decide) dX12_init_217 ?_
  refine g_newa (t := 0) (k := 24) (ty := .int) C rfl rfl (g_ra C (t := 0) rfl) (z_tw 63 (by decide +kernel)) (fun _ => rfl) (by decide) (by decide) (by decide) (Nat.le_of_ble_eq_true rfl) (Nat.le_of_ble_eq_true rfl) dX12_init_219 ?_
  show gW (D, ty, h) 44 2 12 p l e _ s m args below meth c _ 28 682 221 [.ref (h + 1), .ref (h + 2), .ref (h + 3), .ref (h + 4), .ref (h + 5), .ref (h + 6), .int 0, .ref (h + 7), .int 0, .ref (h + 8), .ref (h + 9), .ref (h + 10), .ref (h + 11), .ref (h + 12), .int 0, .int 0, .ref (h + 13), .ref (h + 14), .ref (h + 15), .ref (h + 16), .ref (h + 17), .ref (h + 18), .ref (h + 19), .ref (h + 20), .ref (h + 21), .ref (h + 22), .int 0, .ref (h + 23), .ref (h + 24), .int 0, .ref (h + 25), .ref (h + 26), .int 0, .ref (h + 27), .null, .null, .int 0, .null, .int 0, .int 0, .int 0, .null, .null, .null, .null, .null, .null, .null, .null, .null, .null, .null, .null, .null, .long 0] (Zm.tail.take 28) zM0 [.ref (h + 28), .ref h]
  refine g_put (k := 34) (T := TX12) (N := 55) (ty := (.array .int)) C zC12 (by decide) (by decide +kernel) (z_tw 1085 (by decide +kernel)) rfl rfl rfl rfl (by show 34 < 55; decide) (Nat.le_of_ble_eq_true rfl) dX12_init_221 ?_
  show gW (D, ty, h) 44 2 12 p l e _ s m args below meth c _ 28 682 224 [.ref (h + 1), .ref (h + 2), .ref (h + 3), .ref (h + 4), .ref (h + 5), .ref (h + 6), .int 0, .ref (h + 7), .int 0, .ref (h + 8), .ref (h + 9), .ref (h + 10), .ref (h + 11), .ref (h + 12), .int 0, .int 0, .ref (h + 13), .ref (h + 14), .ref (h + 15), .ref (h + 16), .ref (h + 17), .ref (h + 18), .ref (h + 19), .ref (h + 20), .ref (h + 21), .ref (h + 22), .int 0, .ref (h + 23), .ref (h + 24), .int 0, .ref (h + 25), .ref (h + 26), .int 0, .ref (h + 27), .ref (h + 28), .null, .int 0, .null, .int 0, .int 0, .int 0, .null, .null, .null, .null, .null, .null, .null, .null, .null, .null, .null, .null, .null, .long 0] (Zm.tail.take 28) zM0 []
  refine g_aload0 C dX12_init_224 ?_
  refine g_iconst (v := 4) C (by decide) dX12_init_225 ?_
  refine g_newa (t := 0) (k := 4) (ty := .int) C rfl rfl (g_ra C (t := 0) rfl) (z_tw 63 (by decide +kernel)) (fun _ => rfl) (by decide) (by decide) (by decide) (Nat.le_of_ble_eq_true rfl) (Nat.le_of_ble_eq_true rfl) dX12_init_226 ?_
  show gW (D, ty, h) 44 2 12 p l e _ s m args below meth c _ 29 686 228 [.ref (h + 1), .ref (h + 2), .ref (h + 3), .ref (h + 4), .ref (h + 5), .ref (h + 6), .int 0, .ref (h + 7), .int 0, .ref (h + 8), .ref (h + 9), .ref (h + 10), .ref (h + 11), .ref (h + 12), .int 0, .int 0, .ref (h + 13), .ref (h + 14), .ref (h + 15), .ref (h + 16), .ref (h + 17), .ref (h + 18), .ref (h + 19), .ref (h + 20), .ref (h + 21), .ref (h + 22), .int 0, .ref (h + 23), .ref (h + 24), .int 0, .ref (h + 25), .ref (h + 26), .int 0, .ref (h + 27), .ref (h + 28), .null, .int 0, .null, .int 0, .int 0, .int 0, .null, .null, .null, .null, .null, .null, .null, .null, .null, .null, .null, .null, .null, .long 0] (Zm.tail.take 29) zM0 [.ref (h + 29), .ref h]
  refine g_put (k := 35) (T := TX12) (N := 55) (ty := (.array .int)) C zC12 (by decide) (by decide +kernel) (z_tw 1086 (by decide +kernel)) rfl rfl rfl rfl (by show 35 < 55; decide) (Nat.le_of_ble_eq_true rfl) dX12_init_228 ?_
  show gW (D, ty, h) 44 2 12 p l e _ s m args below meth c _ 29 686 231 [.ref (h + 1), .ref (h + 2), .ref (h + 3), .ref (h + 4), .ref (h + 5), .ref (h + 6), .int 0, .ref (h + 7), .int 0, .ref (h + 8), .ref (h + 9), .ref (h + 10), .ref (h + 11), .ref (h + 12), .int 0, .int 0, .ref (h + 13), .ref (h + 14), .ref (h + 15), .ref (h + 16), .ref (h + 17), .ref (h + 18), .ref (h + 19), .ref (h + 20), .ref (h + 21), .ref (h + 22), .int 0, .ref (h + 23), .ref (h + 24), .int 0, .ref (h + 25), .ref (h + 26), .int 0, .ref (h + 27), .ref (h + 28), .ref (h + 29), .int 0, .null, .int 0, .int 0, .int 0, .null, .null, .null, .null, .null, .null, .null, .null, .null, .null, .null, .null, .null, .long 0] (Zm.tail.take 29) zM0 []
  refine g_aload0 C dX12_init_231 ?_
  refine g_bipush (v := 12) C (by decide) dX12_init_232 ?_
  refine g_newa (t := 0) (k := 12) (ty := .int) C rfl rfl (g_ra C (t := 0) rfl) (z_tw 63 (by decide +kernel)) (fun _ => rfl) (by decide) (by decide) (by decide) (Nat.le_of_ble_eq_true rfl) (Nat.le_of_ble_eq_true rfl) dX12_init_234 ?_
  show gW (D, ty, h) 44 2 12 p l e _ s m args below meth c _ 30 698 236 [.ref (h + 1), .ref (h + 2), .ref (h + 3), .ref (h + 4), .ref (h + 5), .ref (h + 6), .int 0, .ref (h + 7), .int 0, .ref (h + 8), .ref (h + 9), .ref (h + 10), .ref (h + 11), .ref (h + 12), .int 0, .int 0, .ref (h + 13), .ref (h + 14), .ref (h + 15), .ref (h + 16), .ref (h + 17), .ref (h + 18), .ref (h + 19), .ref (h + 20), .ref (h + 21), .ref (h + 22), .int 0, .ref (h + 23), .ref (h + 24), .int 0, .ref (h + 25), .ref (h + 26), .int 0, .ref (h + 27), .ref (h + 28), .ref (h + 29), .int 0, .null, .int 0, .int 0, .int 0, .null, .null, .null, .null, .null, .null, .null, .null, .null, .null, .null, .null, .null, .long 0] (Zm.tail.take 30) zM0 [.ref (h + 30), .ref h]
  refine g_put (k := 37) (T := TX12) (N := 55) (ty := (.array .int)) C zC12 (by decide) (by decide +kernel) (z_tw 1088 (by decide +kernel)) rfl rfl rfl rfl (by show 37 < 55; decide) (Nat.le_of_ble_eq_true rfl) dX12_init_236 ?_
  show gW (D, ty, h) 44 2 12 p l e _ s m args below meth c _ 30 698 239 [.ref (h + 1), .ref (h + 2), .ref (h + 3), .ref (h + 4), .ref (h + 5), .ref (h + 6), .int 0, .ref (h + 7), .int 0, .ref (h + 8), .ref (h + 9), .ref (h + 10), .ref (h + 11), .ref (h + 12), .int 0, .int 0, .ref (h + 13), .ref (h + 14), .ref (h + 15), .ref (h + 16), .ref (h + 17), .ref (h + 18), .ref (h + 19), .ref (h + 20), .ref (h + 21), .ref (h + 22), .int 0, .ref (h + 23), .ref (h + 24), .int 0, .ref (h + 25), .ref (h + 26), .int 0, .ref (h + 27), .ref (h + 28), .ref (h + 29), .int 0, .ref (h + 30), .int 0, .int 0, .int 0, .null, .null, .null, .null, .null, .null, .null, .null, .null, .null, .null, .null, .null, .long 0] (Zm.tail.take 30) zM0 []
  refine g_aload0 C dX12_init_239 ?_
  refine g_bipush (v := 7) C (by decide) dX12_init_240 ?_
  refine g_newa (t := 0) (k := 7) (ty := .int) C rfl rfl (g_ra C (t := 0) rfl) (z_tw 63 (by decide +kernel)) (fun _ => rfl) (by decide) (by decide) (by decide) (Nat.le_of_ble_eq_true rfl) (Nat.le_of_ble_eq_true rfl) dX12_init_242 ?_
  show gW (D, ty, h) 44 2 12 p l e _ s m args below meth c _ 31 705 244 [.ref (h + 1), .ref (h + 2), .ref (h + 3), .ref (h + 4), .ref (h + 5), .ref (h + 6), .int 0, .ref (h + 7), .int 0, .ref (h + 8), .ref (h + 9), .ref (h + 10), .ref (h + 11), .ref (h + 12), .int 0, .int 0, .ref (h + 13), .ref (h + 14), .ref (h + 15), .ref (h + 16), .ref (h + 17), .ref (h + 18), .ref (h + 19), .ref (h + 20), .ref (h + 21), .ref (h + 22), .int 0, .ref (h + 23), .ref (h + 24), .int 0, .ref (h + 25), .ref (h + 26), .int 0, .ref (h + 27), .ref (h + 28), .ref (h + 29), .int 0, .ref (h + 30), .int 0, .int 0, .int 0, .null, .null, .null, .null, .null, .null, .null, .null, .null, .null, .null, .null, .null, .long 0] (Zm.tail.take 31) zM0 [.ref (h + 31), .ref h]
  refine g_put (k := 41) (T := TX12) (N := 55) (ty := (.array .int)) C zC12 (by decide) (by decide +kernel) (z_tw 1092 (by decide +kernel)) rfl rfl rfl rfl (by show 41 < 55; decide) (Nat.le_of_ble_eq_true rfl) dX12_init_244 ?_
  show gW (D, ty, h) 44 2 12 p l e _ s m args below meth c _ 31 705 247 [.ref (h + 1), .ref (h + 2), .ref (h + 3), .ref (h + 4), .ref (h + 5), .ref (h + 6), .int 0, .ref (h + 7), .int 0, .ref (h + 8), .ref (h + 9), .ref (h + 10), .ref (h + 11), .ref (h + 12), .int 0, .int 0, .ref (h + 13), .ref (h + 14), .ref (h + 15), .ref (h + 16), .ref (h + 17), .ref (h + 18), .ref (h + 19), .ref (h + 20), .ref (h + 21), .ref (h + 22), .int 0, .ref (h + 23), .ref (h + 24), .int 0, .ref (h + 25), .ref (h + 26), .int 0, .ref (h + 27), .ref (h + 28), .ref (h + 29), .int 0, .ref (h + 30), .int 0, .int 0, .int 0, .ref (h + 31), .null, .null, .null, .null, .null, .null, .null, .null, .null, .null, .null, .null, .long 0] (Zm.tail.take 31) zM0 []
  refine g_aload0 C dX12_init_247 ?_
  refine g_bipush (v := 7) C (by decide) dX12_init_248 ?_
  refine g_newa (t := 0) (k := 7) (ty := .int) C rfl rfl (g_ra C (t := 0) rfl) (z_tw 63 (by decide +kernel)) (fun _ => rfl) (by decide) (by decide) (by decide) (Nat.le_of_ble_eq_true rfl) (Nat.le_of_ble_eq_true rfl) dX12_init_250 ?_
  show gW (D, ty, h) 44 2 12 p l e _ s m args below meth c _ 32 712 252 [.ref (h + 1), .ref (h + 2), .ref (h + 3), .ref (h + 4), .ref (h + 5), .ref (h + 6), .int 0, .ref (h + 7), .int 0, .ref (h + 8), .ref (h + 9), .ref (h + 10), .ref (h + 11), .ref (h + 12), .int 0, .int 0, .ref (h + 13), .ref (h + 14), .ref (h + 15), .ref (h + 16), .ref (h + 17), .ref (h + 18), .ref (h + 19), .ref (h + 20), .ref (h + 21), .ref (h + 22), .int 0, .ref (h + 23), .ref (h + 24), .int 0, .ref (h + 25), .ref (h + 26), .int 0, .ref (h + 27), .ref (h + 28), .ref (h + 29), .int 0, .ref (h + 30), .int 0, .int 0, .int 0, .ref (h + 31), .null, .null, .null, .null, .null, .null, .null, .null, .null, .null, .null, .null, .long 0] (Zm.tail.take 32) zM0 [.ref (h + 32), .ref h]
  refine g_put (k := 42) (T := TX12) (N := 55) (ty := (.array .int)) C zC12 (by decide) (by decide +kernel) (z_tw 1093 (by decide +kernel)) rfl rfl rfl rfl (by show 42 < 55; decide) (Nat.le_of_ble_eq_true rfl) dX12_init_252 ?_
  show gW (D, ty, h) 44 2 12 p l e _ s m args below meth c _ 32 712 255 [.ref (h + 1), .ref (h + 2), .ref (h + 3), .ref (h + 4), .ref (h + 5), .ref (h + 6), .int 0, .ref (h + 7), .int 0, .ref (h + 8), .ref (h + 9), .ref (h + 10), .ref (h + 11), .ref (h + 12), .int 0, .int 0, .ref (h + 13), .ref (h + 14), .ref (h + 15), .ref (h + 16), .ref (h + 17), .ref (h + 18), .ref (h + 19), .ref (h + 20), .ref (h + 21), .ref (h + 22), .int 0, .ref (h + 23), .ref (h + 24), .int 0, .ref (h + 25), .ref (h + 26), .int 0, .ref (h + 27), .ref (h + 28), .ref (h + 29), .int 0, .ref (h + 30), .int 0, .int 0, .int 0, .ref (h + 31), .ref (h + 32), .null, .null, .null, .null, .null, .null, .null, .null, .null, .null, .null, .long 0] (Zm.tail.take 32) zM0 []
  refine g_aload0 C dX12_init_255 ?_
  refine g_iconst (v := 2) C (by decide) dX12_init_256 ?_
  refine g_newa (t := 0) (k := 2) (ty := .int) C rfl rfl (g_ra C (t := 0) rfl) (z_tw 63 (by decide +kernel)) (fun _ => rfl) (by decide) (by decide) (by decide) (Nat.le_of_ble_eq_true rfl) (Nat.le_of_ble_eq_true rfl) dX12_init_257 ?_
  show gW (D, ty, h) 44 2 12 p l e _ s m args below meth c _ 33 714 259 [.ref (h + 1), .ref (h + 2), .ref (h + 3), .ref (h + 4), .ref (h + 5), .ref (h + 6), .int 0, .ref (h + 7), .int 0, .ref (h + 8), .ref (h + 9), .ref (h + 10), .ref (h + 11), .ref (h + 12), .int 0, .int 0, .ref (h + 13), .ref (h + 14), .ref (h + 15), .ref (h + 16), .ref (h + 17), .ref (h + 18), .ref (h + 19), .ref (h + 20), .ref (h + 21), .ref (h + 22), .int 0, .ref (h + 23), .ref (h + 24), .int 0, .ref (h + 25), .ref (h + 26), .int 0, .ref (h + 27), .ref (h + 28), .ref (h + 29), .int 0, .ref (h + 30), .int 0, .int 0, .int 0, .ref (h + 31), .ref (h + 32), .null, .null, .null, .null, .null, .null, .null, .null, .null, .null, .null, .long 0] (Zm.tail.take 33) zM0 [.ref (h + 33), .ref h]
  refine g_put (k := 43) (T := TX12) (N := 55) (ty := (.array .int)) C zC12 (by decide) (by decide +kernel) (z_tw 1094 (by decide +kernel)) rfl rfl rfl rfl (by show 43 < 55; decide) (Nat.le_of_ble_eq_true rfl) dX12_init_259 ?_
  show gW (D, ty, h) 44 2 12 p l e _ s m args below meth c _ 33 714 262 [.ref (h + 1), .ref (h + 2), .ref (h + 3), .ref (h + 4), .ref (h + 5), .ref (h + 6), .int 0, .ref (h + 7), .int 0, .ref (h + 8), .ref (h + 9), .ref (h + 10), .ref (h + 11), .ref (h + 12), .int 0, .int 0, .ref (h + 13), .ref (h + 14), .ref (h + 15), .ref (h + 16), .ref (h + 17), .ref (h + 18), .ref (h + 19), .ref (h + 20), .ref (h + 21), .ref (h + 22), .int 0, .ref (h + 23), .ref (h + 24), .int 0, .ref (h + 25), .ref (h + 26), .int 0, .ref (h + 27), .ref (h + 28), .ref (h + 29), .int 0, .ref (h + 30), .int 0, .int 0, .int 0, .ref (h + 31), .ref (h + 32), .ref (h + 33), .null, .null, .null, .null, .null, .null, .null, .null, .null, .null, .long 0] (Zm.tail.take 33) zM0 []
  refine g_aload0 C dX12_init_262 ?_
  refine g_bipush (v := 49) C (by decide) dX12_init_263 ?_
  refine g_newa (t := 1) (k := 49) (ty := .long) C rfl rfl (g_ra C (t := 1) rfl) (z_tw 151 (by decide +kernel)) (fun _ => rfl) (by decide) (by decide) (by decide) (Nat.le_of_ble_eq_true rfl) (Nat.le_of_ble_eq_true rfl) dX12_init_265 ?_
  show gW (D, ty, h) 44 2 12 p l e _ s m args below meth c _ 34 763 267 [.ref (h + 1), .ref (h + 2), .ref (h + 3), .ref (h + 4), .ref (h + 5), .ref (h + 6), .int 0, .ref (h + 7), .int 0, .ref (h + 8), .ref (h + 9), .ref (h + 10), .ref (h + 11), .ref (h + 12), .int 0, .int 0, .ref (h + 13), .ref (h + 14), .ref (h + 15), .ref (h + 16), .ref (h + 17), .ref (h + 18), .ref (h + 19), .ref (h + 20), .ref (h + 21), .ref (h + 22), .int 0, .ref (h + 23), .ref (h + 24), .int 0, .ref (h + 25), .ref (h + 26), .int 0, .ref (h + 27), .ref (h + 28), .ref (h + 29), .int 0, .ref (h + 30), .int 0, .int 0, .int 0, .ref (h + 31), .ref (h + 32), .ref (h + 33), .null, .null, .null, .null, .null, .null, .null, .null, .null, .null, .long 0] (Zm.tail.take 34) zM0 [.ref (h + 34), .ref h]
  refine g_put (k := 44) (T := TX12) (N := 55) (ty := (.array .long)) C zC12 (by decide) (by decide +kernel) (z_tw 1095 (by decide +kernel)) rfl rfl rfl rfl (by show 44 < 55; decide) (Nat.le_of_ble_eq_true rfl) dX12_init_267 ?_
  show gW (D, ty, h) 44 2 12 p l e _ s m args below meth c _ 34 763 270 [.ref (h + 1), .ref (h + 2), .ref (h + 3), .ref (h + 4), .ref (h + 5), .ref (h + 6), .int 0, .ref (h + 7), .int 0, .ref (h + 8), .ref (h + 9), .ref (h + 10), .ref (h + 11), .ref (h + 12), .int 0, .int 0, .ref (h + 13), .ref (h + 14), .ref (h + 15), .ref (h + 16), .ref (h + 17), .ref (h + 18), .ref (h + 19), .ref (h + 20), .ref (h + 21), .ref (h + 22), .int 0, .ref (h + 23), .ref (h + 24), .int 0, .ref (h + 25), .ref (h + 26), .int 0, .ref (h + 27), .ref (h + 28), .ref (h + 29), .int 0, .ref (h + 30), .int 0, .int 0, .int 0, .ref (h + 31), .ref (h + 32), .ref (h + 33), .ref (h + 34), .null, .null, .null, .null, .null, .null, .null, .null, .null, .long 0] (Zm.tail.take 34) zM0 []
  refine g_aload0 C dX12_init_270 ?_
  refine g_bipush (v := 49) C (by decide) dX12_init_271 ?_
  refine g_newa (t := 1) (k := 49) (ty := .long) C rfl rfl (g_ra C (t := 1) rfl) (z_tw 151 (by decide +kernel)) (fun _ => rfl) (by decide) (by decide) (by decide) (Nat.le_of_ble_eq_true rfl) (Nat.le_of_ble_eq_true rfl) dX12_init_273 ?_
  show gW (D, ty, h) 44 2 12 p l e _ s m args below meth c _ 35 812 275 [.ref (h + 1), .ref (h + 2), .ref (h + 3), .ref (h + 4), .ref (h + 5), .ref (h + 6), .int 0, .ref (h + 7), .int 0, .ref (h + 8), .ref (h + 9), .ref (h + 10), .ref (h + 11), .ref (h + 12), .int 0, .int 0, .ref (h + 13), .ref (h + 14), .ref (h + 15), .ref (h + 16), .ref (h + 17), .ref (h + 18), .ref (h + 19), .ref (h + 20), .ref (h + 21), .ref (h + 22), .int 0, .ref (h + 23), .ref (h + 24), .int 0, .ref (h + 25), .ref (h + 26), .int 0, .ref (h + 27), .ref (h + 28), .ref (h + 29), .int 0, .ref (h + 30), .int 0, .int 0, .int 0, .ref (h + 31), .ref (h + 32), .ref (h + 33), .ref (h + 34), .null, .null, .null, .null, .null, .null, .null, .null, .null, .long 0] (Zm.tail.take 35) zM0 [.ref (h + 35), .ref h]
  refine g_put (k := 45) (T := TX12) (N := 55) (ty := (.array .long)) C zC12 (by decide) (by decide +kernel) (z_tw 1096 (by decide +kernel)) rfl rfl rfl rfl (by show 45 < 55; decide) (Nat.le_of_ble_eq_true rfl) dX12_init_275 ?_
  show gW (D, ty, h) 44 2 12 p l e _ s m args below meth c _ 35 812 278 [.ref (h + 1), .ref (h + 2), .ref (h + 3), .ref (h + 4), .ref (h + 5), .ref (h + 6), .int 0, .ref (h + 7), .int 0, .ref (h + 8), .ref (h + 9), .ref (h + 10), .ref (h + 11), .ref (h + 12), .int 0, .int 0, .ref (h + 13), .ref (h + 14), .ref (h + 15), .ref (h + 16), .ref (h + 17), .ref (h + 18), .ref (h + 19), .ref (h + 20), .ref (h + 21), .ref (h + 22), .int 0, .ref (h + 23), .ref (h + 24), .int 0, .ref (h + 25), .ref (h + 26), .int 0, .ref (h + 27), .ref (h + 28), .ref (h + 29), .int 0, .ref (h + 30), .int 0, .int 0, .int 0, .ref (h + 31), .ref (h + 32), .ref (h + 33), .ref (h + 34), .ref (h + 35), .null, .null, .null, .null, .null, .null, .null, .null, .long 0] (Zm.tail.take 35) zM0 []
  refine g_aload0 C dX12_init_278 ?_
  refine g_bipush (v := 8) C (by decide) dX12_init_279 ?_
  refine g_newa (t := 0) (k := 8) (ty := .int) C rfl rfl (g_ra C (t := 0) rfl) (z_tw 63 (by decide +kernel)) (fun _ => rfl) (by decide) (by decide) (by decide) (Nat.le_of_ble_eq_true rfl) (Nat.le_of_ble_eq_true rfl) dX12_init_281 ?_
  show gW (D, ty, h) 44 2 12 p l e _ s m args below meth c _ 36 820 283 [.ref (h + 1), .ref (h + 2), .ref (h + 3), .ref (h + 4), .ref (h + 5), .ref (h + 6), .int 0, .ref (h + 7), .int 0, .ref (h + 8), .ref (h + 9), .ref (h + 10), .ref (h + 11), .ref (h + 12), .int 0, .int 0, .ref (h + 13), .ref (h + 14), .ref (h + 15), .ref (h + 16), .ref (h + 17), .ref (h + 18), .ref (h + 19), .ref (h + 20), .ref (h + 21), .ref (h + 22), .int 0, .ref (h + 23), .ref (h + 24), .int 0, .ref (h + 25), .ref (h + 26), .int 0, .ref (h + 27), .ref (h + 28), .ref (h + 29), .int 0, .ref (h + 30), .int 0, .int 0, .int 0, .ref (h + 31), .ref (h + 32), .ref (h + 33), .ref (h + 34), .ref (h + 35), .null, .null, .null, .null, .null, .null, .null, .null, .long 0] (Zm.tail.take 36) zM0 [.ref (h + 36), .ref h]
  refine g_put (k := 46) (T := TX12) (N := 55) (ty := (.array .int)) C zC12 (by decide) (by decide +kernel) (z_tw 1097 (by decide +kernel)) rfl rfl rfl rfl (by show 46 < 55; decide) (Nat.le_of_ble_eq_true rfl) dX12_init_283 ?_
  show gW (D, ty, h) 44 2 12 p l e _ s m args below meth c _ 36 820 286 [.ref (h + 1), .ref (h + 2), .ref (h + 3), .ref (h + 4), .ref (h + 5), .ref (h + 6), .int 0, .ref (h + 7), .int 0, .ref (h + 8), .ref (h + 9), .ref (h + 10), .ref (h + 11), .ref (h + 12), .int 0, .int 0, .ref (h + 13), .ref (h + 14), .ref (h + 15), .ref (h + 16), .ref (h + 17), .ref (h + 18), .ref (h + 19), .ref (h + 20), .ref (h + 21), .ref (h + 22), .int 0, .ref (h + 23), .ref (h + 24), .int 0, .ref (h + 25), .ref (h + 26), .int 0, .ref (h + 27), .ref (h + 28), .ref (h + 29), .int 0, .ref (h + 30), .int 0, .int 0, .int 0, .ref (h + 31), .ref (h + 32), .ref (h + 33), .ref (h + 34), .ref (h + 35), .ref (h + 36), .null, .null, .null, .null, .null, .null, .null, .long 0] (Zm.tail.take 36) zM0 []
  refine g_aload0 C dX12_init_286 ?_
  refine g_sipush (v := 576) C (by decide) dX12_init_287 ?_
  refine g_newa (t := 3) (k := 576) (ty := .boolean) C rfl rfl (g_ra C (t := 3) rfl) (z_tw 1218 (by decide +kernel)) (fun _ => rfl) (by decide) (by decide) (by decide) (Nat.le_of_ble_eq_true rfl) (Nat.le_of_ble_eq_true rfl) dX12_init_290 ?_
  show gW (D, ty, h) 44 2 12 p l e _ s m args below meth c _ 37 1396 292 [.ref (h + 1), .ref (h + 2), .ref (h + 3), .ref (h + 4), .ref (h + 5), .ref (h + 6), .int 0, .ref (h + 7), .int 0, .ref (h + 8), .ref (h + 9), .ref (h + 10), .ref (h + 11), .ref (h + 12), .int 0, .int 0, .ref (h + 13), .ref (h + 14), .ref (h + 15), .ref (h + 16), .ref (h + 17), .ref (h + 18), .ref (h + 19), .ref (h + 20), .ref (h + 21), .ref (h + 22), .int 0, .ref (h + 23), .ref (h + 24), .int 0, .ref (h + 25), .ref (h + 26), .int 0, .ref (h + 27), .ref (h + 28), .ref (h + 29), .int 0, .ref (h + 30), .int 0, .int 0, .int 0, .ref (h + 31), .ref (h + 32), .ref (h + 33), .ref (h + 34), .ref (h + 35), .ref (h + 36), .null, .null, .null, .null, .null, .null, .null, .long 0] (Zm.tail.take 37) zM0 [.ref (h + 37), .ref h]
  refine g_put (k := 47) (T := TX12) (N := 55) (ty := (.array .boolean)) C zC12 (by decide) (by decide +kernel) (z_tw 1098 (by decide +kernel)) rfl rfl rfl rfl (by show 47 < 55; decide) (Nat.le_of_ble_eq_true rfl) dX12_init_292 ?_
  show gW (D, ty, h) 44 2 12 p l e _ s m args below meth c _ 37 1396 295 [.ref (h + 1), .ref (h + 2), .ref (h + 3), .ref (h + 4), .ref (h + 5), .ref (h + 6), .int 0, .ref (h + 7), .int 0, .ref (h + 8), .ref (h + 9), .ref (h + 10), .ref (h + 11), .ref (h + 12), .int 0, .int 0, .ref (h + 13), .ref (h + 14), .ref (h + 15), .ref (h + 16), .ref (h + 17), .ref (h + 18), .ref (h + 19), .ref (h + 20), .ref (h + 21), .ref (h + 22), .int 0, .ref (h + 23), .ref (h + 24), .int 0, .ref (h + 25), .ref (h + 26), .int 0, .ref (h + 27), .ref (h + 28), .ref (h + 29), .int 0, .ref (h + 30), .int 0, .int 0, .int 0, .ref (h + 31), .ref (h + 32), .ref (h + 33), .ref (h + 34), .ref (h + 35), .ref (h + 36), .ref (h + 37), .null, .null, .null, .null, .null, .null, .long 0] (Zm.tail.take 37) zM0 []
  refine g_aload0 C dX12_init_295 ?_
  refine g_bipush (v := 24) C (by decide) dX12_init_296 ?_
  refine g_newa (t := 0) (k := 24) (ty := .int) C rfl rfl (g_ra C (t := 0) rfl) (z_tw 63 (by decide +kernel)) (fun _ => rfl) (by decide) (by decide) (by decide) (Nat.le_of_ble_eq_true rfl) (Nat.le_of_ble_eq_true rfl) dX12_init_298 ?_
  show gW (D, ty, h) 44 2 12 p l e _ s m args below meth c _ 38 1420 300 [.ref (h + 1), .ref (h + 2), .ref (h + 3), .ref (h + 4), .ref (h + 5), .ref (h + 6), .int 0, .ref (h + 7), .int 0, .ref (h + 8), .ref (h + 9), .ref (h + 10), .ref (h + 11), .ref (h + 12), .int 0, .int 0, .ref (h + 13), .ref (h + 14), .ref (h + 15), .ref (h + 16), .ref (h + 17), .ref (h + 18), .ref (h + 19), .ref (h + 20), .ref (h + 21), .ref (h + 22), .int 0, .ref (h + 23), .ref (h + 24), .int 0, .ref (h + 25), .ref (h + 26), .int 0, .ref (h + 27), .ref (h + 28), .ref (h + 29), .int 0, .ref (h + 30), .int 0, .int 0, .int 0, .ref (h + 31), .ref (h + 32), .ref (h + 33), .ref (h + 34), .ref (h + 35), .ref (h + 36), .ref (h + 37), .null, .null, .null, .null, .null, .null, .long 0] (Zm.tail.take 38) zM0 [.ref (h + 38), .ref h]
  refine g_put (k := 48) (T := TX12) (N := 55) (ty := (.array .int)) C zC12 (by decide) (by decide +kernel) (z_tw 1099 (by decide +kernel)) rfl rfl rfl rfl (by show 48 < 55; decide) (Nat.le_of_ble_eq_true rfl) dX12_init_300 ?_
  show gW (D, ty, h) 44 2 12 p l e _ s m args below meth c _ 38 1420 303 [.ref (h + 1), .ref (h + 2), .ref (h + 3), .ref (h + 4), .ref (h + 5), .ref (h + 6), .int 0, .ref (h + 7), .int 0, .ref (h + 8), .ref (h + 9), .ref (h + 10), .ref (h + 11), .ref (h + 12), .int 0, .int 0, .ref (h + 13), .ref (h + 14), .ref (h + 15), .ref (h + 16), .ref (h + 17), .ref (h + 18), .ref (h + 19), .ref (h + 20), .ref (h + 21), .ref (h + 22), .int 0, .ref (h + 23), .ref (h + 24), .int 0, .ref (h + 25), .ref (h + 26), .int 0, .ref (h + 27), .ref (h + 28), .ref (h + 29), .int 0, .ref (h + 30), .int 0, .int 0, .int 0, .ref (h + 31), .ref (h + 32), .ref (h + 33), .ref (h + 34), .ref (h + 35), .ref (h + 36), .ref (h + 37), .ref (h + 38), .null, .null, .null, .null, .null, .long 0] (Zm.tail.take 38) zM0 []
  refine g_aload0 C dX12_init_303 ?_
  refine g_bipush (v := 24) C (by decide) dX12_init_304 ?_
  refine g_newa (t := 3) (k := 24) (ty := .boolean) C rfl rfl (g_ra C (t := 3) rfl) (z_tw 1218 (by decide +kernel)) (fun _ => rfl) (by decide) (by decide) (by decide) (Nat.le_of_ble_eq_true rfl) (Nat.le_of_ble_eq_true rfl) dX12_init_306 ?_
  show gW (D, ty, h) 44 2 12 p l e _ s m args below meth c _ 39 1444 308 [.ref (h + 1), .ref (h + 2), .ref (h + 3), .ref (h + 4), .ref (h + 5), .ref (h + 6), .int 0, .ref (h + 7), .int 0, .ref (h + 8), .ref (h + 9), .ref (h + 10), .ref (h + 11), .ref (h + 12), .int 0, .int 0, .ref (h + 13), .ref (h + 14), .ref (h + 15), .ref (h + 16), .ref (h + 17), .ref (h + 18), .ref (h + 19), .ref (h + 20), .ref (h + 21), .ref (h + 22), .int 0, .ref (h + 23), .ref (h + 24), .int 0, .ref (h + 25), .ref (h + 26), .int 0, .ref (h + 27), .ref (h + 28), .ref (h + 29), .int 0, .ref (h + 30), .int 0, .int 0, .int 0, .ref (h + 31), .ref (h + 32), .ref (h + 33), .ref (h + 34), .ref (h + 35), .ref (h + 36), .ref (h + 37), .ref (h + 38), .null, .null, .null, .null, .null, .long 0] (Zm.tail.take 39) zM0 [.ref (h + 39), .ref h]
  refine g_put (k := 49) (T := TX12) (N := 55) (ty := (.array .boolean)) C zC12 (by decide) (by decide +kernel) (z_tw 1100 (by decide +kernel)) rfl rfl rfl rfl (by show 49 < 55; decide) (Nat.le_of_ble_eq_true rfl) dX12_init_308 ?_
  show gW (D, ty, h) 44 2 12 p l e _ s m args below meth c _ 39 1444 311 [.ref (h + 1), .ref (h + 2), .ref (h + 3), .ref (h + 4), .ref (h + 5), .ref (h + 6), .int 0, .ref (h + 7), .int 0, .ref (h + 8), .ref (h + 9), .ref (h + 10), .ref (h + 11), .ref (h + 12), .int 0, .int 0, .ref (h + 13), .ref (h + 14), .ref (h + 15), .ref (h + 16), .ref (h + 17), .ref (h + 18), .ref (h + 19), .ref (h + 20), .ref (h + 21), .ref (h + 22), .int 0, .ref (h + 23), .ref (h + 24), .int 0, .ref (h + 25), .ref (h + 26), .int 0, .ref (h + 27), .ref (h + 28), .ref (h + 29), .int 0, .ref (h + 30), .int 0, .int 0, .int 0, .ref (h + 31), .ref (h + 32), .ref (h + 33), .ref (h + 34), .ref (h + 35), .ref (h + 36), .ref (h + 37), .ref (h + 38), .ref (h + 39), .null, .null, .null, .null, .long 0] (Zm.tail.take 39) zM0 []
  refine g_aload0 C dX12_init_311 ?_
  refine g_bipush (v := 24) C (by decide) dX12_init_312 ?_
  refine g_newa (t := 0) (k := 24) (ty := .int) C rfl rfl (g_ra C (t := 0) rfl) (z_tw 63 (by decide +kernel)) (fun _ => rfl) (by decide) (by decide) (by decide) (Nat.le_of_ble_eq_true rfl) (Nat.le_of_ble_eq_true rfl) dX12_init_314 ?_
  show gW (D, ty, h) 44 2 12 p l e _ s m args below meth c _ 40 1468 316 [.ref (h + 1), .ref (h + 2), .ref (h + 3), .ref (h + 4), .ref (h + 5), .ref (h + 6), .int 0, .ref (h + 7), .int 0, .ref (h + 8), .ref (h + 9), .ref (h + 10), .ref (h + 11), .ref (h + 12), .int 0, .int 0, .ref (h + 13), .ref (h + 14), .ref (h + 15), .ref (h + 16), .ref (h + 17), .ref (h + 18), .ref (h + 19), .ref (h + 20), .ref (h + 21), .ref (h + 22), .int 0, .ref (h + 23), .ref (h + 24), .int 0, .ref (h + 25), .ref (h + 26), .int 0, .ref (h + 27), .ref (h + 28), .ref (h + 29), .int 0, .ref (h + 30), .int 0, .int 0, .int 0, .ref (h + 31), .ref (h + 32), .ref (h + 33), .ref (h + 34), .ref (h + 35), .ref (h + 36), .ref (h + 37), .ref (h + 38), .ref (h + 39), .null, .null, .null, .null, .long 0] (Zm.tail.take 40) zM0 [.ref (h + 40), .ref h]
  refine g_put (k := 50) (T := TX12) (N := 55) (ty := (.array .int)) C zC12 (by decide) (by decide +kernel) (z_tw 1101 (by decide +kernel)) rfl rfl rfl rfl (by show 50 < 55; decide) (Nat.le_of_ble_eq_true rfl) dX12_init_316 ?_
  show gW (D, ty, h) 44 2 12 p l e _ s m args below meth c _ 40 1468 319 [.ref (h + 1), .ref (h + 2), .ref (h + 3), .ref (h + 4), .ref (h + 5), .ref (h + 6), .int 0, .ref (h + 7), .int 0, .ref (h + 8), .ref (h + 9), .ref (h + 10), .ref (h + 11), .ref (h + 12), .int 0, .int 0, .ref (h + 13), .ref (h + 14), .ref (h + 15), .ref (h + 16), .ref (h + 17), .ref (h + 18), .ref (h + 19), .ref (h + 20), .ref (h + 21), .ref (h + 22), .int 0, .ref (h + 23), .ref (h + 24), .int 0, .ref (h + 25), .ref (h + 26), .int 0, .ref (h + 27), .ref (h + 28), .ref (h + 29), .int 0, .ref (h + 30), .int 0, .int 0, .int 0, .ref (h + 31), .ref (h + 32), .ref (h + 33), .ref (h + 34), .ref (h + 35), .ref (h + 36), .ref (h + 37), .ref (h + 38), .ref (h + 39), .ref (h + 40), .null, .null, .null, .long 0] (Zm.tail.take 40) zM0 []
  refine g_aload0 C dX12_init_319 ?_
  refine g_bipush (v := 24) C (by decide) dX12_init_320 ?_
  refine g_newa (t := 0) (k := 24) (ty := .int) C rfl rfl (g_ra C (t := 0) rfl) (z_tw 63 (by decide +kernel)) (fun _ => rfl) (by decide) (by decide) (by decide) (Nat.le_of_ble_eq_true rfl) (Nat.le_of_ble_eq_true rfl) dX12_init_322 ?_
  show gW (D, ty, h) 44 2 12 p l e _ s m args below meth c _ 41 1492 324 [.ref (h + 1), .ref (h + 2), .ref (h + 3), .ref (h + 4), .ref (h + 5), .ref (h + 6), .int 0, .ref (h + 7), .int 0, .ref (h + 8), .ref (h + 9), .ref (h + 10), .ref (h + 11), .ref (h + 12), .int 0, .int 0, .ref (h + 13), .ref (h + 14), .ref (h + 15), .ref (h + 16), .ref (h + 17), .ref (h + 18), .ref (h + 19), .ref (h + 20), .ref (h + 21), .ref (h + 22), .int 0, .ref (h + 23), .ref (h + 24), .int 0, .ref (h + 25), .ref (h + 26), .int 0, .ref (h + 27), .ref (h + 28), .ref (h + 29), .int 0, .ref (h + 30), .int 0, .int 0, .int 0, .ref (h + 31), .ref (h + 32), .ref (h + 33), .ref (h + 34), .ref (h + 35), .ref (h + 36), .ref (h + 37), .ref (h + 38), .ref (h + 39), .ref (h + 40), .null, .null, .null, .long 0] (Zm.tail.take 41) zM0 [.ref (h + 41), .ref h]
  refine g_put (k := 51) (T := TX12) (N := 55) (ty := (.array .int)) C zC12 (by decide) (by decide +kernel) (z_tw 1102 (by decide +kernel)) rfl rfl rfl rfl (by show 51 < 55; decide) (Nat.le_of_ble_eq_true rfl) dX12_init_324 ?_
  show gW (D, ty, h) 44 2 12 p l e _ s m args below meth c _ 41 1492 327 [.ref (h + 1), .ref (h + 2), .ref (h + 3), .ref (h + 4), .ref (h + 5), .ref (h + 6), .int 0, .ref (h + 7), .int 0, .ref (h + 8), .ref (h + 9), .ref (h + 10), .ref (h + 11), .ref (h + 12), .int 0, .int 0, .ref (h + 13), .ref (h + 14), .ref (h + 15), .ref (h + 16), .ref (h + 17), .ref (h + 18), .ref (h + 19), .ref (h + 20), .ref (h + 21), .ref (h + 22), .int 0, .ref (h + 23), .ref (h + 24), .int 0, .ref (h + 25), .ref (h + 26), .int 0, .ref (h + 27), .ref (h + 28), .ref (h + 29), .int 0, .ref (h + 30), .int 0, .int 0, .int 0, .ref (h + 31), .ref (h + 32), .ref (h + 33), .ref (h + 34), .ref (h + 35), .ref (h + 36), .ref (h + 37), .ref (h + 38), .ref (h + 39), .ref (h + 40), .ref (h + 41), .null, .null, .long 0] (Zm.tail.take 41) zM0 []
  refine g_aload0 C dX12_init_327 ?_
  refine g_bipush (v := 24) C (by decide) dX12_init_328 ?_
  refine g_newa (t := 0) (k := 24) (ty := .int) C rfl rfl (g_ra C (t := 0) rfl) (z_tw 63 (by decide +kernel)) (fun _ => rfl) (by decide) (by decide) (by decide) (Nat.le_of_ble_eq_true rfl) (Nat.le_of_ble_eq_true rfl) dX12_init_330 ?_
  show gW (D, ty, h) 44 2 12 p l e _ s m args below meth c _ 42 1516 332 [.ref (h + 1), .ref (h + 2), .ref (h + 3), .ref (h + 4), .ref (h + 5), .ref (h + 6), .int 0, .ref (h + 7), .int 0, .ref (h + 8), .ref (h + 9), .ref (h + 10), .ref (h + 11), .ref (h + 12), .int 0, .int 0, .ref (h + 13), .ref (h + 14), .ref (h + 15), .ref (h + 16), .ref (h + 17), .ref (h + 18), .ref (h + 19), .ref (h + 20), .ref (h + 21), .ref (h + 22), .int 0, .ref (h + 23), .ref (h + 24), .int 0, .ref (h + 25), .ref (h + 26), .int 0, .ref (h + 27), .ref (h + 28), .ref (h + 29), .int 0, .ref (h + 30), .int 0, .int 0, .int 0, .ref (h + 31), .ref (h + 32), .ref (h + 33), .ref (h + 34), .ref (h + 35), .ref (h + 36), .ref (h + 37), .ref (h + 38), .ref (h + 39), .ref (h + 40), .ref (h + 41), .null, .null, .long 0] (Zm.tail.take 42) zM0 [.ref (h + 42), .ref h]
  refine g_put (k := 52) (T := TX12) (N := 55) (ty := (.array .int)) C zC12 (by decide) (by decide +kernel) (z_tw 1103 (by decide +kernel)) rfl rfl rfl rfl (by show 52 < 55; decide) (Nat.le_of_ble_eq_true rfl) dX12_init_332 ?_
  show gW (D, ty, h) 44 2 12 p l e _ s m args below meth c _ 42 1516 335 [.ref (h + 1), .ref (h + 2), .ref (h + 3), .ref (h + 4), .ref (h + 5), .ref (h + 6), .int 0, .ref (h + 7), .int 0, .ref (h + 8), .ref (h + 9), .ref (h + 10), .ref (h + 11), .ref (h + 12), .int 0, .int 0, .ref (h + 13), .ref (h + 14), .ref (h + 15), .ref (h + 16), .ref (h + 17), .ref (h + 18), .ref (h + 19), .ref (h + 20), .ref (h + 21), .ref (h + 22), .int 0, .ref (h + 23), .ref (h + 24), .int 0, .ref (h + 25), .ref (h + 26), .int 0, .ref (h + 27), .ref (h + 28), .ref (h + 29), .int 0, .ref (h + 30), .int 0, .int 0, .int 0, .ref (h + 31), .ref (h + 32), .ref (h + 33), .ref (h + 34), .ref (h + 35), .ref (h + 36), .ref (h + 37), .ref (h + 38), .ref (h + 39), .ref (h + 40), .ref (h + 41), .ref (h + 42), .null, .long 0] (Zm.tail.take 42) zM0 []
  refine g_aload0 C dX12_init_335 ?_
  refine g_bipush (v := 6) C (by decide) dX12_init_336 ?_
  refine g_newa (t := 0) (k := 6) (ty := .int) C rfl rfl (g_ra C (t := 0) rfl) (z_tw 63 (by decide +kernel)) (fun _ => rfl) (by decide) (by decide) (by decide) (Nat.le_of_ble_eq_true rfl) (Nat.le_of_ble_eq_true rfl) dX12_init_338 ?_
  show gW (D, ty, h) 44 2 12 p l e _ s m args below meth c _ 43 1522 340 [.ref (h + 1), .ref (h + 2), .ref (h + 3), .ref (h + 4), .ref (h + 5), .ref (h + 6), .int 0, .ref (h + 7), .int 0, .ref (h + 8), .ref (h + 9), .ref (h + 10), .ref (h + 11), .ref (h + 12), .int 0, .int 0, .ref (h + 13), .ref (h + 14), .ref (h + 15), .ref (h + 16), .ref (h + 17), .ref (h + 18), .ref (h + 19), .ref (h + 20), .ref (h + 21), .ref (h + 22), .int 0, .ref (h + 23), .ref (h + 24), .int 0, .ref (h + 25), .ref (h + 26), .int 0, .ref (h + 27), .ref (h + 28), .ref (h + 29), .int 0, .ref (h + 30), .int 0, .int 0, .int 0, .ref (h + 31), .ref (h + 32), .ref (h + 33), .ref (h + 34), .ref (h + 35), .ref (h + 36), .ref (h + 37), .ref (h + 38), .ref (h + 39), .ref (h + 40), .ref (h + 41), .ref (h + 42), .null, .long 0] (Zm.tail.take 43) zM0 [.ref (h + 43), .ref h]
  refine g_put (k := 53) (T := TX12) (N := 55) (ty := (.array .int)) C zC12 (by decide) (by decide +kernel) (z_tw 1104 (by decide +kernel)) rfl rfl rfl rfl (by show 53 < 55; decide) (Nat.le_of_ble_eq_true rfl) dX12_init_340 ?_
  show gW (D, ty, h) 44 2 12 p l e _ s m args below meth c _ 43 1522 343 [.ref (h + 1), .ref (h + 2), .ref (h + 3), .ref (h + 4), .ref (h + 5), .ref (h + 6), .int 0, .ref (h + 7), .int 0, .ref (h + 8), .ref (h + 9), .ref (h + 10), .ref (h + 11), .ref (h + 12), .int 0, .int 0, .ref (h + 13), .ref (h + 14), .ref (h + 15), .ref (h + 16), .ref (h + 17), .ref (h + 18), .ref (h + 19), .ref (h + 20), .ref (h + 21), .ref (h + 22), .int 0, .ref (h + 23), .ref (h + 24), .int 0, .ref (h + 25), .ref (h + 26), .int 0, .ref (h + 27), .ref (h + 28), .ref (h + 29), .int 0, .ref (h + 30), .int 0, .int 0, .int 0, .ref (h + 31), .ref (h + 32), .ref (h + 33), .ref (h + 34), .ref (h + 35), .ref (h + 36), .ref (h + 37), .ref (h + 38), .ref (h + 39), .ref (h + 40), .ref (h + 41), .ref (h + 42), .ref (h + 43), .long 0] (Zm.tail.take 43) zM0 []
  refine g_tail (d := dd + 1) (n := 44) C (KK_met l (D, ty, h, Zm) (fun _ _ _ => .null) Zm_5 (dd + 1)) rfl rfl (zw_X12 D ty h) (ct_X12 (D, ty, h, Zm) (dd + 1) _ Zm_5) hP
