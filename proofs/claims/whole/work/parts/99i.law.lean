/-! THE CLAIM OUT OF ONE WALK OF THE LAW'S BODY. Your part is whole_start (and what it stands on); all else here is the same for every law, but numbers. -/
def R_law : String := "SmallMakersLaw"
def lw_P (b : Addr) (xs : List Int32) (args : Array Value) (s : State) : Prop := args = #[.ref b] ∧ s.IntsAt b xs ∧ xs.length ≤ 3072 ∧ (Jvm.Cond.and given_1 narrow_1).before args s = true
def lw_Q (_ : Array Value) (s : State) (o : Outcome) (t : State) : Prop := o = .returned (some (.int 1)) ∧ Framed s o t [] 600000 7302250
def lw_Z (below : List Frame) (a : Array Value) (s : State) : State → Prop := fun t => ∃ o, t.status = .running ∧ Ended t below o ∧ lw_Q a s o t
/-- the law's own end, with 1 on the stack, nothing written that was there before, its room as the claim has it -/
theorem lw_ret {p : Program} {l : Launch} {e : Env} {s : State} {m : MethodId} {below : List Frame} {meth : Method} {c : Code} {b : Nat} (hx : p.tables.exec = Jvm.exec) (hb : c.code = code) (hr : meth.sig.returnType = ret) (hlocks : meth.locks = false) {pc : Nat} {H : Heap} {ls : Array Slot} (hdg : decode code pc = .ok (.ireturn, 1)) : W p l e room_1 s m #[Value.ref b] below meth c H [] 600000 7302250 (lw_Z below #[Value.ref b] s) (F0 m pc ls [.int 1]) := by
  intro T hT X
  obtain ⟨fs, hret, hrun, hended, hW, hframe⟩ := X.leave (v := some (.int 1)) (hlocks := hlocks) (fun h => by rw [hr] at h; cases h)
  have hmeth' : T.vm.method? m = some meth := X.method'
  refine ⟨T.setFrames fs, ?_, .returned (some (.int 1)), hrun, hended, rfl, ⟨_, rfl⟩, hW, hframe⟩
  jvm_step X.here [X.here.top, hx, hb, hdg, hmeth', hr, ret, narrow_b1]
  (try refine ⟨rfl, ?_⟩); (try refine ⟨rfl, ?_⟩)
  first | (intro acts; rw [hret _ acts rfl rfl rfl]) | rw [hret _ _ rfl rfl rfl]
  exact Steps.refl _
/-- what holds at the law's entry: the machine, the code, the tables' words (any of lw_tbl by 'hts w (by decide +kernel)'), the script of L ints xs at the cell b, what the Statement gives of the start (any of its parts by flat_of_before) -/
def lw_At (p : Program) (s : State) (m : MethodId) (meth : Method) (c : Code) (b L : Nat) (xs : Nat → Int32) : Prop :=
  p.tables.exec = Jvm.exec ∧ c.code = code ∧ meth.sig.returnType = ret ∧ c.maxLocals = 4 ∧ s.vm.findClass R_law = some m.cls ∧ (∀ w ∈ lw_tbl, w.before #[Value.ref b] s = true) ∧ va_X b L xs s s.heap ∧ b < s.heap.size ∧ meth.locks = false ∧ (Jvm.Cond.and given_1 narrow_1).before #[Value.ref b] s = true
/-! LAYER C: the law over two worlds: the maker's region behind the start's heap, the reference's behind it -/
def lC (G : va_G × (Nat → ClassId)) (p : Program) (s : State) (m : MethodId) (meth : Method) (c : Code) (b L : Nat) (xs : Nat → Int32) : Prop := lw_At p s m meth c b L xs ∧ L ≤ 3072 ∧ zK (G.1, G.2, 0, []) s ∧ zNw s
def lA (s : State) : Nat → Prop := fun q => s.heap.size ≤ q
def lW (G : va_G × (Nat → ClassId)) (p : Program) (l : Launch) (e : Env) (s : State) (m : MethodId) (below : List Frame) (meth : Method) (c : Code) (b pc : Nat) (μ ν : ZM) (i : Nat) (st : List Value) : Prop :=
  ∀ (H : Heap) (locs : List Loc) (ls : Array Slot), va_P G.1 vwCl (zw (G.1, G.2, s.heap.size, Zx) μ) H → va_P G.1 vwCl (zw (G.1, G.2, s.heap.size + 171, Zm) ν) H → va_S (lA s) s.heap H locs → lv_has ls 4 [(3, .int (nI i)), (2, .ref (s.heap.size + 171)), (1, .ref s.heap.size), (0, .ref b)] →
    W p l e room_1 s m #[Value.ref b] below meth c H locs 215 2928 (lw_Z below #[Value.ref b] s) (F0 m pc ls st)
section LL
variable {G : va_G × (Nat → ClassId)} {p : Program} {l : Launch} {e : Env} {s : State} {m : MethodId} {below : List Frame} {meth : Method} {c : Code} {b L : Nat} {xs : Nat → Int32} {pc i : Nat} {μ ν : ZM} {st : List Value}
theorem l_call {bG bO : Nat} {Z O : List ZD} {F : ZFt} {d k ci n idx : Nat} {as rest : List Value} {I : ZI} {fs : List (Option (Option Nat))} {P' : Option Value → ZM → Prop} {H : Heap} {locs : List Loc} {ls : Array Slot} {Q : State → Prop} (C : lC G p s m meth c b L xs) (hI : zinfo k = I) (hs : zCV R_law idx ci I n) (hT : zt5 Z) (hK : KK Z F d k (.ref 0 :: as) μ P') (hZ : Z[0]? = some (.inl (ci, fs))) (hn : as.length = n) (has : as.map (zsh bG) = as) (hd : d ≤ 1000) (hge : s.heap.size ≤ bG) (hap : bG + Z.length ≤ bO ∨ bO + O.length ≤ bG)
    (hP : va_P G.1 vwCl (zw (G.1, G.2, bG, Z) μ) H) (hO : va_P G.1 vwCl (zw (G.1, G.2, bO, O) ν) H) (hS : va_S (lA s) s.heap H locs) (hL : ls.size = 4) (hw : (rest.map fun v => v.category).sum ≤ 8) (hdec : decode code pc = .ok (.invokevirtual idx, 3))
    (kk : ∀ (v : Option Value) (μ' : ZM) (H1 : Heap) (locs1 : List Loc), P' v μ' → va_P G.1 vwCl (zw (G.1, G.2, bG, Z) μ') H1 → va_P G.1 vwCl (zw (G.1, G.2, bO, O) ν) H1 → va_S (lA s) s.heap H1 locs1 → W p l e room_1 s m #[Value.ref b] below meth c H1 locs1 215 2928 Q (F0 m (pc + 3) ls ((v.map (zsh bG)).toList ++ rest))) :
    W p l e room_1 s m #[Value.ref b] below meth c H locs 215 2928 Q (F0 m pc ls (as.reverse ++ .ref bG :: rest)) := by
  obtain ⟨⟨hx, hb, hr, hml, hown, hts, hX, hbl, hlocks, hgv⟩, hL3, hKz, hNw⟩ := C
  obtain ⟨⟨hc, hini, hmh, hpl, hmlI, hlk⟩, hin, hsel, T, N, hcl⟩ := hs
  have hZT : ZT l (G.1, G.2, bG, Z) d I (.ref 0 :: as) μ P' := by
    have := KK_met l (G.1, G.2, bG, Z) F hT d k (.ref 0 :: as) μ P' hK
    rw [hI] at this
    exact this
  have hts' : ∀ w ∈ gdT, w.before #[Value.ref b] s = true := fun w hw => hts w (List.mem_filter.mp hw).1
  have hKz' : va_K G.1 vwCl (ztys (G.1, G.2, bG, Z)) s := hKz
  have hat := zw_at (G := (G.1, G.2, bG, Z)) (μ := μ) hZ
  have hargs : (Value.ref 0 :: as).map (zsh bG) = .ref bG :: as := by rw [List.map_cons, has]; rfl
  have hpv : PreV s H I.1.cls bG (zPc (G.1, G.2, bG, Z) (.ref 0 :: as) μ) as := ⟨zPc_blind _ _, va_recv hKz' hP (q := (I.1.cls, T, N)) hcl hat, fun U hU hW => ⟨by show _ = ((Value.ref 0 :: as).map (zsh bG)).toArray; rw [hargs], by rw [hU]; exact hP, va_K.moved hW.alike hKz', zNw.warm hW hNw⟩⟩
  have hgood : ∀ w ∈ zWs I, ∀ (a' : Array Value) (U : State), s.WarmedH U.vm → w.before a' U = true := by
    intro w hw a' U hW
    have h1 : w ∈ gdT := by
      rcases List.mem_cons.mp hw with rfl | h
      · exact z_gd hc rfl
      · exact h
    exact word_at hW (good_of_word (List.mem_filter.mp h1).2) (hts' w h1)
  have hroom : (zrm d).frames + 1 ≤ room_1.frames ∧ 8 + (I.2.2.1 + 11) + (zrm d).locals ≤ room_1.locals := ⟨by show d + 1 ≤ 2048; omega, by show 8 + (I.2.2.1 + 11) + 40 * d ≤ 84000; omega⟩
  have hr2 : 2 * (F0 m pc ls (as.reverse ++ .ref bG :: rest)).monitorRoom + (rest.map fun v => v.category).sum ≤ 8 := lv_room hw
  have hcells : 215 + 0 ≤ room_1.cells ∧ 2928 + 0 ≤ room_1.slots := ⟨by decide, by decide⟩
  have hrun : va_Run p l e room_1 s m #[Value.ref b] below meth c H locs 215 2928 0 0 (F0 m pc ls (as.reverse ++ .ref bG :: rest)) rest (zQ (G.1, G.2, bG, Z) P' (Value.ref bG :: as).toArray) (zA (G.1, G.2, bG, Z)) := by
    rcases hlk with hlk | ⟨host, hlk⟩
    · exact va_runV (Ts := gdT) ⟨hx, hb, hml, hown, hts'⟩ hZT ⟨⟨rfl, rfl, hroom.1, hroom.2, hgood, List.mem_cons_self, hts _ hc, hts _ hini, hmh, z_len hpl, hts _ hlk⟩, hts _ hin, hts _ hsel⟩ hpv rfl hn hL rfl hr2 hdec hcells
    · exact va_runVN (Ts := gdT) ⟨hx, hb, hml, hown, hts'⟩ hZT ⟨⟨⟨rfl, rfl, hroom.1, hroom.2, hgood, List.mem_cons_self⟩, hts _ hc, hts _ hini, hmh, z_len hpl, hts _ hlk⟩, hts _ hin, hts _ hsel⟩ hpv rfl hn hL rfl hr2 hdec hcells
  intro T0 hT0 X
  obtain ⟨v, st₀, t, T', L', h0, X', hLo, e1, e2, ⟨v', μ', hv, hp, hbP, hzz, hk⟩, stp⟩ := hrun T0 hT0 X
  cases hv
  rw [h0] at hzz hk
  obtain ⟨t2, a1, b1⟩ := kk v' μ' T'.heap (locs ++ L') hp (by rw [e1]; exact hbP) (by
      rw [e1]
      refine hO.kept (fun j q hq => hk q.1 (hO j q hq).lt (fun hz => ?_))
      obtain ⟨dd, hd1, hd2⟩ := zw_in hq
      have h5 := (List.getElem?_eq_some_iff.mp hd1).1
      have h6 : q.1 = bO + j := by rw [hd2]
      have h7 : bG ≤ q.1 ∧ q.1 < bG + Z.length := hz
      have h8 : j < O.length := h5
      omega)
    ⟨Nat.le_trans hS.1 (by rw [e1]; exact hzz), fun q h1 h2 => by
      rw [e1, hk q (Nat.lt_of_lt_of_le h1 hS.1) (fun hz => h2 (Nat.le_trans hge hz.1))]
      exact hS.2.1 q h1 h2, fun q hq => by
      rcases List.mem_append.mp hq with h | h
      · exact hS.2.2 q h
      · exact Nat.le_trans hge (hLo q h).1⟩ T' rfl X'
  exact ⟨t2, stp t2 a1, b1⟩
theorem l_arg {j : Nat} (C : lC G p s m meth c b L xs) (hij : i + j < L) (hj : Int32.ofInt (j : Int) = nI j) (d0 : decode code pc = .ok (.aload_n 0, 1)) (d1 : decode code (pc + 1) = .ok (.iload_n 3, 1)) (d2 : decode code (pc + 2) = .ok (.iconst (j : Int), 1)) (d3 : decode code (pc + 3) = .ok (.iadd, 1)) (d4 : decode code (pc + 4) = .ok (.iaload, 1))
    (k : lW G p l e s m below meth c b (pc + 5) μ ν i (.int (xs (i + j)) :: st)) : lW G p l e s m below meth c b pc μ ν i st := by
  intro H locs ls hP hO hS hl
  have hL3 := C.2.1
  have hsum : nI i + nI j = nI (i + j) := nI_add i j
  refine lv_aload_n C.1.1 C.1.2.1 d0 rfl (lv_at hl 3 rfl) ?_
  refine lv_iload_n C.1.1 C.1.2.1 d1 rfl (lv_at hl 0 rfl) ?_
  refine lv_iconst (v := nI j) C.1.1 C.1.2.1 d2 hj ?_
  refine lv_iadd C.1.1 C.1.2.1 d3 ?_
  rw [hsum]
  refine va_sld C.1.1 C.1.2.1 C.1.2.2.2.2.2.2.1 C.1.2.2.2.2.2.2.2.1 (Nat.not_le.mpr C.1.2.2.2.2.2.2.2.1) hS (vp_in_nI hij (by omega)) d4 ?_
  rw [show (nI (i + j)).toNatClampNeg = i + j from nI_clamp (by omega)]
  exact k H locs ls hP hO hS hl
theorem l_r1 (C : lC G p s m meth c b L xs) (d0 : decode code pc = .ok (.aload_n 1, 1)) (k : lW G p l e s m below meth c b (pc + 1) μ ν i (.ref s.heap.size :: st)) : lW G p l e s m below meth c b pc μ ν i st := by
  intro H locs ls hP hO hS hl
  exact lv_aload_n C.1.1 C.1.2.1 d0 rfl (lv_at hl 2 rfl) (k H locs ls hP hO hS hl)
theorem l_r2 (C : lC G p s m meth c b L xs) (d0 : decode code pc = .ok (.aload_n 2, 1)) (k : lW G p l e s m below meth c b (pc + 1) μ ν i (.ref (s.heap.size + 171) :: st)) : lW G p l e s m below meth c b pc μ ν i st := by
  intro H locs ls hP hO hS hl
  exact lv_aload_n C.1.1 C.1.2.1 d0 rfl (lv_at hl 1 rfl) (k H locs ls hP hO hS hl)
theorem l_cx {F : ZFt} {d k n idx : Nat} {as : List Value} {I : ZI} {P' : Option Value → ZM → Prop} (C : lC G p s m meth c b L xs) (hI : zinfo k = I) (hs : zCV R_law idx 11 I n) (hK : KK Zx F d k (.ref 0 :: as) μ P') (hn : as.length = n) (has : ∀ q, as.map (zsh q) = as) (hd : d ≤ 1000) (hw : (st.map fun v => v.category).sum ≤ 8) (hdec : decode code pc = .ok (.invokevirtual idx, 3))
    (k9 : ∀ (v : Option Value) (μ' : ZM), P' v μ' → lW G p l e s m below meth c b (pc + 3) μ' ν i ((v.map (zsh s.heap.size)).toList ++ st)) : lW G p l e s m below meth c b pc μ ν i (as.reverse ++ .ref s.heap.size :: st) := by
  intro H locs ls hP hO hS hl
  exact l_call C hI hs Zx_5 hK rfl hn (has _) hd (Nat.le_refl _) (Or.inl (Nat.le_refl _)) hP hO hS hl.1 hw hdec (fun v μ' H1 locs1 h1 h2 h3 h4 => k9 v μ' h1 H1 locs1 ls h2 h3 h4 hl)
theorem l_cm {F : ZFt} {d k n idx : Nat} {as : List Value} {I : ZI} {P' : Option Value → ZM → Prop} (C : lC G p s m meth c b L xs) (hI : zinfo k = I) (hs : zCV R_law idx 12 I n) (hK : KK Zm F d k (.ref 0 :: as) ν P') (hn : as.length = n) (has : ∀ q, as.map (zsh q) = as) (hd : d ≤ 1000) (hw : (st.map fun v => v.category).sum ≤ 8) (hdec : decode code pc = .ok (.invokevirtual idx, 3))
    (k9 : ∀ (v : Option Value) (ν' : ZM), P' v ν' → lW G p l e s m below meth c b (pc + 3) μ ν' i ((v.map (zsh (s.heap.size + 171))).toList ++ st)) : lW G p l e s m below meth c b pc μ ν i (as.reverse ++ .ref (s.heap.size + 171) :: st) := by
  intro H locs ls hP hO hS hl
  exact l_call C hI hs Zm_5 hK rfl hn (has _) hd (Nat.le_add_right _ _) (Or.inr (Nat.le_refl _)) hO hP hS hl.1 hw hdec (fun v μ' H1 locs1 h1 h2 h3 h4 => k9 v μ' h1 H1 locs1 ls h3 h2 h4 hl)
theorem l_eq {off : Int} {tgt : Nat} {x : Int32} (C : lC G p s m meth c b L xs) (hd : decode code pc = .ok (.if_icmp .eq off, 3)) (ht : (pc : Int) + off = (tgt : Int)) (k : lW G p l e s m below meth c b tgt μ ν i []) : lW G p l e s m below meth c b pc μ ν i [.int x, .int x] := by
  intro H locs ls hP hO hS hl
  exact lv_icmp_eq C.1.1 C.1.2.1 hd ht (fun _ => k H locs ls hP hO hS hl) (fun h => absurd rfl h)
theorem l_eqL {off : Int} {tgt : Nat} {x : Int64} (C : lC G p s m meth c b L xs) (h1 : decode code pc = .ok (.lcmp, 1)) (hd : decode code (pc + 1) = .ok (.ifCond .eq off, 3)) (ht : ((pc + 1 : Nat) : Int) + off = (tgt : Int)) (k : lW G p l e s m below meth c b tgt μ ν i []) : lW G p l e s m below meth c b pc μ ν i [.long x, .long x] := by
  intro H locs ls hP hO hS hl
  refine W.lcmp C.1.1 C.1.2.1 h1 ?_
  refine lv_if_eq C.1.1 C.1.2.1 hd ht (fun _ => k H locs ls hP hO hS hl) (fun h => absurd ?_ h)
  unfold lg_cmp
  simp
theorem l_step (C : lC G p s m meth c b L xs) (d0 : decode code pc = .ok (.iinc 3 6, 3)) {off : Int} {tgt : Nat} (d1 : decode code (pc + 3) = .ok (.goto off, 3)) (ht : ((pc + 3 : Nat) : Int) + off = (tgt : Int)) (k : lW G p l e s m below meth c b tgt μ ν (i + 6) []) : lW G p l e s m below meth c b pc μ ν i [] := by
  intro H locs ls hP hO hS hl
  refine lv_iinc (v := nI (i + 6)) (lv' := [(3, .int (nI (i + 6))), (2, .ref (s.heap.size + 171)), (1, .ref s.heap.size), (0, .ref b)]) C.1.1 C.1.2.1 d0 hl (k := 0) rfl (nI_add i 6) (by decide) rfl (fun ls hl => ?_)
  refine lv_goto C.1.1 C.1.2.1 d1 ht ?_
  exact k H locs ls hP hO hS hl
end LL
