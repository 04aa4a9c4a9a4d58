/-! THE CLAIM OUT OF ONE WALK OF THE LAW'S BODY. Your part is whole_start (and what it stands on); all else here is the same for every law, but numbers. -/
def R_law : String := "CoreShedLaw"
def lw_P (b : Addr) (xs : List Int32) (args : Array Value) (s : State) : Prop := args = #[.ref b] ∧ s.IntsAt b xs ∧ xs.length ≤ 3072 ∧ (Jvm.Cond.and given_1 narrow_1).before args s = true
def lw_Q (_ : Array Value) (s : State) (o : Outcome) (t : State) : Prop := o = .returned (some (.int 1)) ∧ Framed s o t [] 600000 7302250
def lw_Z (below : List Frame) (a : Array Value) (s : State) : State → Prop := fun t => ∃ o, t.status = .running ∧ Ended t below o ∧ lw_Q a s o t
/-- the law's own end, with 1 on the stack, nothing written that was there before, its room as the claim has it -/
theorem lw_ret {p : Program} {l : Launch} {e : Env} {s : State} {m : MethodId} {below : List Frame} {meth : Method} {c : Code} {b : Nat} (hx : p.tables.exec = Jvm.exec) (hb : c.code = code) (hr : meth.sig.returnType = ret) (hlocks : meth.locks = false) {pc : Nat} {H : Heap} {ls : Array Slot} (hdg : decode code pc = .ok (.ireturn, 1)) : W p l e room_1 s m #[Value.ref b] below meth c H [] 600000 7302250 (lw_Z below #[Value.ref b] s) (F0 m pc ls [.int 1]) := by
  intro T hT X
  obtain ⟨fs, hret, hrun, hended, hW, hframe⟩ := X.leave (v := some (.int 1)) (hlocks := hlocks) (fun h => by rw [hr] at h; cases h)
  have hmeth' : T.vm.method? m = some meth := X.method'
  refine ⟨T.setFrames fs, ?_, .returned (some (.int 1)), hrun, hended, rfl, ⟨_, rfl⟩, hW, hframe⟩
  jvm_step X.here [X.here.top, hx, hb, hdg, hmeth', hr, ret, narrow_b1]
  (try refine ⟨rfl, ?_⟩); (try refine ⟨rfl, ?_⟩)
  first | (intro acts; rw [hret _ acts rfl rfl rfl]) | rw [hret _ _ rfl rfl rfl]
  exact Steps.refl _
/-- what holds at the law's entry: the machine, the code, the tables' words (any of lw_tbl by 'hts w (by decide +kernel)'), the script of L ints xs at the cell b, what the Statement gives of the start (any of its parts by flat_of_before) -/
def lw_At (p : Program) (s : State) (m : MethodId) (meth : Method) (c : Code) (b L : Nat) (xs : Nat → Int32) : Prop :=
  p.tables.exec = Jvm.exec ∧ c.code = code ∧ meth.sig.returnType = ret ∧ c.maxLocals = 4 ∧ s.vm.findClass R_law = some m.cls ∧ (∀ w ∈ lw_tbl, w.before #[Value.ref b] s = true) ∧ va_X b L xs s s.heap ∧ b < s.heap.size ∧ meth.locks = false ∧ (Jvm.Cond.and given_1 narrow_1).before #[Value.ref b] s = true
set_option maxHeartbeats 4000000 in
set_option maxRecDepth 100000 in
/-- the law's loop -/
theorem law_loop {p : Program} {l : Launch} {e : Env} {s : State} {m : MethodId} {below : List Frame} {meth : Method} {c : Code} {D : va_G} {cT : Nat → ClassId} {am : Nat → Nat} {b L : Nat} {xs : Nat → Int32} (C0 : LC p s m c D cT b L xs) (hr : meth.sig.returnType = ret) (hlocks : meth.locks = false) :
    ∀ (k i : Nat), i + k = 513 → i ≤ 512 → ∀ (ad : Adr) (τ ρ : Tau) (H : Heap) (locs : List Loc) (ls : Array Slot), IZ τ → LW D cT ad am τ τ ρ s.heap.size H → va_S (fun q : Nat => s.heap.size ≤ q) s.heap H locs → LV ls b ad am (6 * i) → W p l e room_1 s m #[Value.ref b] below meth c H locs (60 + 10 * i) (3000 + 154 * i) (lw_Z below #[Value.ref b] s) (F0 m 18 ls []) := by
  intro k
  induction k with
  | zero =>
    intro i h1 h2
    exact absurd h1 (by omega)
  | succ k ih =>
    intro i h1 h2 ad τ ρ H locs ls hI hW hS hl
    have C1 := C0
    obtain ⟨hx, hb, hml, hts, hown, hX, hbl, hK, hE, hL⟩ := C0
    refine lv_iload_n hx hb dL_law_18 rfl (lv_at hl 3 rfl) ?_
    refine lv_aload_n hx hb dL_law_19 rfl (lv_at hl 0 rfl) ?_
    refine va_slen hx hb hX hbl (Nat.not_le.mpr hbl) hS dL_law_20 ?_
    have eL : Int32.ofNat L = iI (L : Int) := (iI_nat L).symm
    rw [eL]
    refine z_bipush hx hb dL_law_21 (by decide) ?_
    refine z_isub hx hb dL_law_23 ?_
    refine z_icmp_gt (tgt := 1183) hx hb (by omega) (by omega) dL_law_24 (by decide) (fun c1 => ?_) (fun c1 => ?_)
    · refine lv_iconst (v := 1) hx hb dL_law_1183 (by decide) ?_
      refine va_forget (fun q hq => hS.2.2 q hq) ?_
      refine W.widen (k := 600000) (n := 7302250) (by omega) (by omega) ?_
      exact lw_ret hx hb hr hlocks dL_law_1184
    · have hn : 6 * i + 6 ≤ L := by omega
      have K : ∀ (ad2 : Adr) (τ2 ρ2 : Tau) (H2 : Heap) (locs2 : List Loc), ad2 0 0 = ad 0 0 → IZ τ2 → LW D cT ad2 am τ2 τ2 ρ2 s.heap.size H2 → va_S (fun q : Nat => s.heap.size ≤ q) s.heap H2 locs2 → W p l e room_1 s m #[Value.ref b] below meth c H2 locs2 (60 + 10 * i + 10) (3000 + 154 * i + 154) (lw_Z below #[Value.ref b] s) (F0 m 1177 ls []) := by
        intro ad2 τ2 ρ2 H2 locs2 e0 hI2 hW2 hS2
        refine z_iinc (lv' := [(3, .int (iI (((6 * i : Nat) : Int) + 6))), (0, .ref b), (1, .ref (ad 0 0)), (2, .ref (am 0))]) hx hb dL_law_1177 hl (k := 3) rfl (by decide) rfl (fun ls hl => ?_)
        refine lv_goto (tgt := 18) hx hb dL_law_1180 (by decide) ?_
        refine W.widen (k := 60 + 10 * (i + 1)) (n := 3000 + 154 * (i + 1)) (by omega) (by omega) ?_
        refine ih (i + 1) (by omega) (by omega) ad2 τ2 ρ2 H2 locs2 ls hI2 hW2 hS2 ?_
        show lv_has ls 4 [(0, .ref b), (1, .ref (ad2 0 0)), (2, .ref (am 0)), (3, .int (iI ((6 * (i + 1) : Nat) : Int)))]
        rw [e0, show ((6 * (i + 1) : Nat) : Int) = ((6 * i : Nat) : Int) + 6 by omega]
        exact lv_sub hl [1, 2, 3, 0] rfl
      refine lv_aload_n hx hb dL_law_27 rfl (lv_at hl 0 rfl) ?_
      refine lv_iload_n hx hb dL_law_28 rfl (lv_at hl 3 rfl) ?_
      refine l_sld hx hb hX hbl hS (6 * i) rfl (by omega) hL dL_law_29 ?_
      refine z_bipush hx hb dL_law_30 (by decide) ?_
      refine lv_iand hx hb dL_law_32 ?_
      obtain ⟨j, hj, ej⟩ := a31 (iI (xs (6 * i)).toInt)
      have e31 : iI 31 = 31 := by decide
      rw [e31, ej]
      rcases (show j = 0 ∨ j = 1 ∨ j = 2 ∨ j = 3 ∨ j = 4 ∨ j = 5 ∨ j = 6 ∨ j = 7 ∨ j = 8 ∨ j = 9 ∨ j = 10 ∨ j = 11 ∨ j = 12 ∨ j = 13 ∨ j = 14 ∨ j = 15 ∨ j = 16 ∨ j = 17 ∨ j = 18 ∨ j = 19 ∨ j = 20 ∨ j = 21 ∨ j = 22 ∨ j = 23 ∨ j = 24 ∨ j = 25 ∨ j = 26 ∨ j = 27 ∨ j = 28 ∨ j = 29 ∨ j = 30 ∨ j = 31 by omega) with rfl | rfl | rfl | rfl | rfl | rfl | rfl | rfl | rfl | rfl | rfl | rfl | rfl | rfl | rfl | rfl | rfl | rfl | rfl | rfl | rfl | rfl | rfl | rfl | rfl | rfl | rfl | rfl | rfl | rfl | rfl | rfl
      · refine lv_tableIn (off := 139) (tgt := 172) hx hb dL_law_33 (by decide) (by decide) (by decide) (by decide) ?_
        exact lb_hole C1 hn (by omega) (by omega) hl hI hW hS K
      · refine lv_tableIn (off := 152) (tgt := 185) hx hb dL_law_33 (by decide) (by decide) (by decide) (by decide) ?_
        exact lb_run C1 hn (by omega) (by omega) hl hI hW hS K
      · refine lv_tableIn (off := 195) (tgt := 228) hx hb dL_law_33 (by decide) (by decide) (by decide) (by decide) ?_
        exact lb_end C1 hn (by omega) (by omega) hl hI hW hS K
      · refine lv_tableIn (off := 218) (tgt := 251) hx hb dL_law_33 (by decide) (by decide) (by decide) (by decide) ?_
        exact lb_recovered C1 hn (by omega) (by omega) hl hI hW hS K
      · refine lv_tableIn (off := 261) (tgt := 294) hx hb dL_law_33 (by decide) (by decide) (by decide) (by decide) ?_
        exact lb_mark C1 hn (by omega) (by omega) hl hI hW hS K
      · refine lv_tableIn (off := 294) (tgt := 327) hx hb dL_law_33 (by decide) (by decide) (by decide) (by decide) ?_
        exact lb_wrong C1 hn (by omega) (by omega) hl hI hW hS K
      · refine lv_tableIn (off := 317) (tgt := 350) hx hb dL_law_33 (by decide) (by decide) (by decide) (by decide) ?_
        exact lb_isWrong C1 hn (by omega) (by omega) hl hI hW hS K
      · refine lv_tableIn (off := 350) (tgt := 383) hx hb dL_law_33 (by decide) (by decide) (by decide) (by decide) ?_
        exact lb_layer C1 hn (by omega) (by omega) hl hI hW hS K
      · refine lv_tableIn (off := 403) (tgt := 436) hx hb dL_law_33 (by decide) (by decide) (by decide) (by decide) ?_
        exact lb_code C1 hn (by omega) (by omega) hl hI hW hS K
      · refine lv_tableIn (off := 436) (tgt := 469) hx hb dL_law_33 (by decide) (by decide) (by decide) (by decide) ?_
        exact lb_rock C1 hn (by omega) (by omega) hl hI hW hS K
      · refine lv_tableIn (off := 479) (tgt := 512) hx hb dL_law_33 (by decide) (by decide) (by decide) (by decide) ?_
        exact lb_agree C1 hn (by omega) (by omega) hl hI hW hS K
      · refine lv_tableIn (off := 502) (tgt := 535) hx hb dL_law_33 (by decide) (by decide) (by decide) (by decide) ?_
        exact lb_sample C1 hn (by omega) (by omega) hl hI hW hS K
      · refine lv_tableIn (off := 545) (tgt := 578) hx hb dL_law_33 (by decide) (by decide) (by decide) (by decide) ?_
        exact lb_left C1 hn (by omega) (by omega) hl hI hW hS K
      · refine lv_tableIn (off := 568) (tgt := 601) hx hb dL_law_33 (by decide) (by decide) (by decide) (by decide) ?_
        exact lb_batch C1 hn (by omega) (by omega) hl hI hW hS K
      · refine lv_tableIn (off := 581) (tgt := 614) hx hb dL_law_33 (by decide) (by decide) (by decide) (by decide) ?_
        exact lb_put C1 hn (by omega) (by omega) hl hI hW hS K
      · refine lv_tableIn (off := 614) (tgt := 647) hx hb dL_law_33 (by decide) (by decide) (by decide) (by decide) ?_
        exact lb_standard C1 hn (by omega) (by omega) hl hI hW hS K
      · refine lv_tableIn (off := 657) (tgt := 690) hx hb dL_law_33 (by decide) (by decide) (by decide) (by decide) ?_
        exact lb_blank C1 hn (by omega) (by omega) hl hI hW hS K
      · refine lv_tableIn (off := 680) (tgt := 713) hx hb dL_law_33 (by decide) (by decide) (by decide) (by decide) ?_
        exact lb_twice C1 hn (by omega) (by omega) hl hI hW hS K
      · refine lv_tableIn (off := 713) (tgt := 746) hx hb dL_law_33 (by decide) (by decide) (by decide) (by decide) ?_
        exact lb_law C1 hn (by omega) (by omega) hl hI hW hS K
      · refine lv_tableIn (off := 746) (tgt := 779) hx hb dL_law_33 (by decide) (by decide) (by decide) (by decide) ?_
        exact lb_result C1 hn (by omega) (by omega) hl hI hW hS K
      · refine lv_tableIn (off := 789) (tgt := 822) hx hb dL_law_33 (by decide) (by decide) (by decide) (by decide) ?_
        exact lb_sound C1 hn (by omega) (by omega) hl hI hW hS K
      · refine lv_tableIn (off := 812) (tgt := 845) hx hb dL_law_33 (by decide) (by decide) (by decide) (by decide) ?_
        exact lb_fault C1 hn (by omega) (by omega) hl hI hW hS K
      · refine lv_tableIn (off := 835) (tgt := 868) hx hb dL_law_33 (by decide) (by decide) (by decide) (by decide) ?_
        exact lb_swap C1 hn (by omega) (by omega) hl hI hW hS K
      · refine lv_tableIn (off := 858) (tgt := 891) hx hb dL_law_33 (by decide) (by decide) (by decide) (by decide) ?_
        exact lb_exchange C1 hn (by omega) (by omega) hl hI hW hS K
      · refine lv_tableIn (off := 891) (tgt := 924) hx hb dL_law_33 (by decide) (by decide) (by decide) (by decide) ?_
        exact lb_about C1 hn (by omega) (by omega) hl hI hW hS K
      · refine lv_tableIn (off := 934) (tgt := 967) hx hb dL_law_33 (by decide) (by decide) (by decide) (by decide) ?_
        exact lb_grade C1 hn (by omega) (by omega) hl hI hW hS K
      · refine lv_tableIn (off := 967) (tgt := 1000) hx hb dL_law_33 (by decide) (by decide) (by decide) (by decide) ?_
        exact lb_composite C1 hn (by omega) (by omega) hl hI hW hS K
      · refine lv_tableIn (off := 1031) (tgt := 1064) hx hb dL_law_33 (by decide) (by decide) (by decide) (by decide) ?_
        exact lb_cost C1 hn (by omega) (by omega) hl hI hW hS K
      · refine lv_tableIn (off := 1064) (tgt := 1097) hx hb dL_law_33 (by decide) (by decide) (by decide) (by decide) ?_
        exact lb_matched C1 hn (by omega) (by omega) hl hI hW hS K
      · refine lv_tableIn (off := 1107) (tgt := 1140) hx hb dL_law_33 (by decide) (by decide) (by decide) (by decide) ?_
        exact lb_count C1 hn (by omega) (by omega) hl hI hW hS K
      · refine lv_tableIn (off := 1130) (tgt := 1163) hx hb dL_law_33 (by decide) (by decide) (by decide) (by decide) ?_
        exact lb_digest C1 hn (by omega) (by omega) hl hI hW hS K
      · refine lv_tableOut (tgt := 1177) hx hb dL_law_33 (by decide) (by decide) ?_
        refine W.widen (k := 60 + 10 * i + 10) (n := 3000 + 154 * i + 154) (by omega) (by omega) ?_
        exact K ad τ ρ H locs rfl hI hW hS
/-! what the tables say of arrays -/
theorem kn_p {ty : FieldType} {args : Array Value} {s : State} (h : (Cond.arrayClass ty).before args s = true) (h2 : ty = .int ∨ ty = .boolean) : ∃ cA : ClassId, ArrOfT s cA ty ∧ va_RA s cA ty := by
  obtain ⟨cA, kA, comp, h1, h3, h4⟩ := Cond.arrayClass_spec h
  refine ⟨cA, fun n z => ⟨fun k h => (by cases h), kA, h3, comp, h4⟩, ?_⟩
  rcases h2 with rfl | rfl
  · exact h1
  · exact h1
theorem kn_o {C : String} {args : Array Value} {s : State} (h : (Cond.arrayOver (.object C)).before args s = true) : ∃ cA : ClassId, ArrOfT s cA (.object C) ∧ va_RA s cA (.object C) := by
  obtain ⟨comp, cA, kA, h1, -, h3, h4, h5⟩ := Cond.arrayOver_spec h
  exact ⟨cA, fun n z => ⟨fun k h => (by cases h), kA, h3, comp, h4⟩, kA, comp, h3, h4, h1, h5⟩
theorem kn_a {args : Array Value} {s : State} (h : (Cond.arrayOver (.array .int)).before args s = true) : ∃ cA : ClassId, ArrOfT s cA (.array .int) ∧ va_RA s cA (.array .int) := by
  obtain ⟨comp, cA, kA, h1, h3, h4, h5⟩ := Cond.arrayOver_specA h
  exact ⟨cA, fun n z => ⟨fun k h => (by cases h), kA, h3, comp, h4⟩, h5⟩
theorem kn_all {s : State} {args : Array Value} (hts : ∀ w ∈ lw_tbl, w.before args s = true) : ∃ (D : va_G) (cT : Nat → ClassId), va_K D vwCl (cTy cT) s := by
  obtain ⟨c0, i0, k0⟩ := u_known (C := RX0) (T := TX0) (N := 2) (n := 2) hts inX0 (hts (.instantiable RX0 2) (by decide +kernel))
  obtain ⟨c1, i1, k1⟩ := u_known (C := RX1) (T := TX1) (N := 8) (n := 8) hts inX1 (hts (.instantiable RX1 8) (by decide +kernel))
  obtain ⟨c2, i2, k2⟩ := u_known (C := RX2) (T := TX2) (N := 3) (n := 3) hts inX2 (hts (.instantiable RX2 3) (by decide +kernel))
  obtain ⟨c3, i3, k3⟩ := u_known (C := RX3) (T := TX3) (N := 1) (n := 1) hts inX3 (hts (.instantiable RX3 1) (by decide +kernel))
  obtain ⟨c4, i4, k4⟩ := u_known (C := RX4) (T := TX4) (N := 2) (n := 2) hts inX4 (hts (.instantiable RX4 2) (by decide +kernel))
  obtain ⟨c5, i5, k5⟩ := u_known (C := RX5) (T := TX5) (N := 5) (n := 5) hts inX5 (hts (.instantiable RX5 5) (by decide +kernel))
  obtain ⟨c6, i6, k6⟩ := u_known (C := RX6) (T := TX6) (N := 4) (n := 4) hts inX6 (hts (.instantiable RX6 4) (by decide +kernel))
  obtain ⟨c7, i7, k7⟩ := u_known (C := RX7) (T := TX7) (N := 11) (n := 11) hts inX7 (hts (.instantiable RX7 11) (by decide +kernel))
  obtain ⟨c8, i8, k8⟩ := u_known (C := RX8) (T := TX8) (N := 27) (n := 27) hts inX8 (hts (.instantiable RX8 27) (by decide +kernel))
  obtain ⟨t0, u0⟩ := kn_p (hts (.arrayClass .int) (by decide +kernel)) (Or.inl rfl)
  obtain ⟨t1, u1⟩ := kn_p (hts (.arrayClass .boolean) (by decide +kernel)) (Or.inr rfl)
  obtain ⟨t2, u2⟩ := kn_o (hts (.arrayOver (.object "CoreShed$Hole")) (by decide +kernel))
  obtain ⟨t3, u3⟩ := kn_o (hts (.arrayOver (.object "CoreShed$Sample")) (by decide +kernel))
  obtain ⟨t4, u4⟩ := kn_o (hts (.arrayOver (.object "CoreShed$Batch")) (by decide +kernel))
  obtain ⟨t5, u5⟩ := kn_o (hts (.arrayOver (.object "CoreShed$Place")) (by decide +kernel))
  obtain ⟨t6, u6⟩ := kn_a (hts (.arrayOver (.array .int)) (by decide +kernel))
  refine ⟨(fun k => match k with | 0 => c0 | 1 => c1 | 2 => c2 | 3 => c3 | 4 => c4 | 5 => c5 | 6 => c6 | 7 => c7 | _ => c8, fun k => match k with | 0 => i0 | 1 => i1 | 2 => i2 | 3 => i3 | 4 => i4 | 5 => i5 | 6 => i6 | 7 => i7 | _ => i8), fun k => match k with | 0 => t0 | 1 => t1 | 2 => t2 | 3 => t3 | 4 => t4 | 5 => t5 | _ => t6, fun k q hq => ?_, fun k q hq => ?_⟩
  · match k, hq with
    | 0, hq => cases hq; exact k0
    | 1, hq => cases hq; exact k1
    | 2, hq => cases hq; exact k2
    | 3, hq => cases hq; exact k3
    | 4, hq => cases hq; exact k4
    | 5, hq => cases hq; exact k5
    | 6, hq => cases hq; exact k6
    | 7, hq => cases hq; exact k7
    | 8, hq => cases hq; exact k8
    | k + 9, hq => exact absurd hq (by (first | (intro h; cases h; done) | simp [vwCl]))
  · match k, hq with
    | 0, hq => cases hq; exact u0
    | 1, hq => cases hq; exact u1
    | 2, hq => cases hq; exact u2
    | 3, hq => cases hq; exact u3
    | 4, hq => cases hq; exact u4
    | 5, hq => cases hq; exact u5
    | 6, hq => cases hq; exact u6
    | k + 7, hq => exact absurd hq (by (first | (intro h; cases h; done) | simp [cTy]))
theorem nw_all {s : State} {args : Array Value} (hts : ∀ w ∈ lw_tbl, w.before args s = true) : EW s :=
  ⟨⟨va_Nw.of rfl (hts (.methodLinkNest RX7 166 yX0_init "CoreShed") (by decide +kernel)), va_Nw.of rfl (hts (.methodLinkNest RX7 33 yX4_init "CoreShed") (by decide +kernel)), va_Nw.of rfl (hts (.methodLinkNest RX7 40 yX3_init "CoreShed") (by decide +kernel)), va_Nw.of rfl (hts (.methodLinkNest RX7 55 yX1_init "CoreShed") (by decide +kernel)), va_Nw.of rfl (hts (.methodLinkNest RX0 77 yX7_mixed "CoreShed") (by decide +kernel)), va_Nw.of rfl (hts (.methodLinkNest RX1 23 yX2_init "CoreShed") (by decide +kernel)), va_Nw.of rfl (hts (.methodLinkNest RX1 41 yX7_unitsInCommon "CoreShed") (by decide +kernel)), va_Nw.of rfl (hts (.methodLinkNest RX1 45 yX7_mixed "CoreShed") (by decide +kernel)), va_Nw.of rfl (hts (.methodLinkNest RX2 26 yX7_mixed "CoreShed") (by decide +kernel)), va_Nw.of rfl (hts (.methodLinkNest RX6 24 yX7_unitsInCommon "CoreShed") (by decide +kernel)), va_Nw.of rfl (hts (.methodLinkNest RX6 28 yX7_mixed "CoreShed") (by decide +kernel))⟩, va_AO.of (hts (.arrayOver (.object "CoreShed$Hole")) (by decide +kernel)), va_AO.of (hts (.arrayOver (.object "CoreShed$Sample")) (by decide +kernel)), va_AO.of (hts (.arrayOver (.object "CoreShed$Batch")) (by decide +kernel)), va_AO.of (hts (.arrayOver (.object "CoreShed$Place")) (by decide +kernel)), va_AOA.of (hts (.arrayOver (.array .int)) (by decide +kernel))⟩
set_option maxHeartbeats 4000000 in
set_option maxRecDepth 100000 in
/-- the law, from its entry -/
theorem whole_start {p : Program} {e : Env} {s : State} {m : MethodId} {below : List Frame} {meth : Method} {c : Code} (l : Launch) {b L : Nat} {xs : Nat → Int32} (hL : L ≤ 3072) (C0 : lw_At p s m meth c b L xs) : W p l e room_1 s m #[Value.ref b] below meth c s.heap [] 0 0 (lw_Z below #[Value.ref b] s) (entryFrame m ([Value.ref b] : List Value).toArray 4) := by
  obtain ⟨hx, hb, hr, hml, hown, hts0, hX, hbl, hlocks, hgv⟩ := C0
  obtain ⟨D, cT, hK⟩ := kn_all hts0
  have hE := nw_all hts0
  have hts : ∀ w ∈ wsL_law, w.before #[Value.ref b] s = true := fun w hw => hts0 w (wsL_law_in w hw)
  have hKm : va_K D vwCl (mT (cT 0) (cT 1)) s := hK.sub [0, 1] rfl
  have hown : s.vm.findClass RL = some m.cls := hown
  have hS : va_S (fun q : Nat => s.heap.size ≤ q) s.heap s.heap [] := va_S.rf
  have hl := lv_entry ([.ref b]) (n := 4) (Nat.le_of_ble_eq_true rfl)
  rw [lg_entry_eq]
  generalize (lg_sl ([.ref b]) ++ List.replicate (4 - (lg_sl ([.ref b])).length) Slot.unset).toArray = ls at hl ⊢
  have hl : lv_has ls 4 [(0, .ref b)] := hl
  obtain ⟨z, hz⟩ : ∃ z, s.heap.size = z := ⟨_, rfl⟩
  refine y_new (a := z) (C := RX7) (T := TX7) (N := 11) (ci := 7) (fs := [.null, .null, .null, .null, .null, .null, .int (iI 0), .int (iI 0), .int (iI 0), .int (iI 0), .int (iI 0)]) hx hb hts inlX7 tyX7 tyX7_ok hown (hts (.classLink RL 7 RX7) (by decide +kernel)) (hts (.instantiable RX7 11) (by decide +kernel)) (hts (.initialized RX7) (by decide +kernel)) hK hS rfl (fun j hj => by rcases (show j = 0 ∨ j = 1 ∨ j = 2 ∨ j = 3 ∨ j = 4 ∨ j = 5 ∨ j = 6 ∨ j = 7 ∨ j = 8 ∨ j = 9 ∨ j = 10 by omega) with rfl | rfl | rfl | rfl | rfl | rfl | rfl | rfl | rfl | rfl | rfl <;> rfl) (Nat.le_of_ble_eq_true rfl) (Nat.le_of_ble_eq_true rfl) hz dL_law_0 (fun H hc0 hz1 hold hS => ?_)
  refine lv_dup hx hb dL_law_3 rfl ?_
  refine n_callI (n := 0) (b := z) (As := []) (rest := [.ref z]) hx hb hml hts hown EW_mv hK hE ⟨hz1, Nat.lt_succ_self z, hc0⟩ hS (fun q (h : q = z ∨ z + 1 ≤ q) => (show s.heap.size ≤ q by omega)) (c7_init l D cT z (z + 1)) gL_law_X7_init rfl rfl rfl (hts (.initialized RX7) (by decide +kernel)) (hts (.methodLink RL 9 yX7_init) (by decide +kernel)) (hts (.instanceMethod yX7_init) (by decide +kernel)) rfl (by decide +kernel) ⟨by decide, by decide⟩ rfl hl.1 rfl (Nat.le_of_ble_eq_true rfl) ⟨(Nat.le_of_ble_eq_true rfl), (Nat.le_of_ble_eq_true rfl)⟩ dL_law_4 (fun H locs hp hzz hk hS => ?_)
  obtain ⟨hz2, a0, a1, a2, a3, a4, a5, a6, a7, a8, a9, a10⟩ := hp
  have hC := c_made (Nat.lt_succ_self z) a0 a1 a2 a3 a4 a5 a6 a7 a8 a9 a10
  have hCA : ∀ q, CA (cAd z (z + 1)) τ0 q → z ≤ q ∧ q < z + 31 := fun q hq => by
    obtain ⟨k, i, h1, e1⟩ := hq
    have := c_pos (b := z) (z := z + 1) h1
    omega
  refine lv_astore_n (lv' := [(1, .ref z), (0, .ref b)]) hx hb dL_law_7 rfl hl (by decide) rfl (fun ls hl => ?_)
  refine y_new (a := z + 31) (C := RX8) (T := TX8) (N := 27) (ci := 8) (fs := [.int (iI 0), .null, .null, .null, .null, .null, .null, .null, .null, .null, .null, .null, .int (iI 0), .null, .null, .null, .null, .int (iI 0), .int (iI 0), .null, .null, .null, .null, .null, .null, .null, .null]) hx hb hts inlX8 tyX8 tyX8_ok hown (hts (.classLink RL 10 RX8) (by decide +kernel)) (hts (.instantiable RX8 27) (by decide +kernel)) (hts (.initialized RX8) (by decide +kernel)) hK hS rfl (fun j hj => by rcases (show j = 0 ∨ j = 1 ∨ j = 2 ∨ j = 3 ∨ j = 4 ∨ j = 5 ∨ j = 6 ∨ j = 7 ∨ j = 8 ∨ j = 9 ∨ j = 10 ∨ j = 11 ∨ j = 12 ∨ j = 13 ∨ j = 14 ∨ j = 15 ∨ j = 16 ∨ j = 17 ∨ j = 18 ∨ j = 19 ∨ j = 20 ∨ j = 21 ∨ j = 22 ∨ j = 23 ∨ j = 24 ∨ j = 25 ∨ j = 26 by omega) with rfl | rfl | rfl | rfl | rfl | rfl | rfl | rfl | rfl | rfl | rfl | rfl | rfl | rfl | rfl | rfl | rfl | rfl | rfl | rfl | rfl | rfl | rfl | rfl | rfl | rfl | rfl <;> rfl) (Nat.le_of_ble_eq_true rfl) (Nat.le_of_ble_eq_true rfl) (hz2.trans (by omega)) dL_law_8 (fun H hc0 hz1 hold hS => ?_)
  have hC := hC.kept (fun q hq => hold q (by have := (hCA q hq).2; omega))
  refine lv_dup hx hb dL_law_11 rfl ?_
  refine n_callI (n := 0) (b := z + 31) (As := []) (rest := [.ref (z + 31)]) hx hb hml hts hown TW_mv hKm trivial ⟨hz1, Nat.lt_succ_self (z + 31), hc0⟩ hS (fun q (h : q = z + 31 ∨ z + 31 + 1 ≤ q) => (show s.heap.size ≤ q by omega)) (c8_init l D (cT 0) (cT 1) (z + 31) (z + 31 + 1)) gL_law_X8_init rfl rfl rfl (hts (.initialized RX8) (by decide +kernel)) (hts (.methodLink RL 12 yX8_init) (by decide +kernel)) (hts (.instanceMethod yX8_init) (by decide +kernel)) rfl (by decide +kernel) ⟨by decide, by decide⟩ rfl hl.1 rfl (Nat.le_of_ble_eq_true rfl) ⟨(Nat.le_of_ble_eq_true rfl), (Nat.le_of_ble_eq_true rfl)⟩ dL_law_12 (fun H locs hp hzz hk hS => ?_)
  obtain ⟨hz3, hM⟩ := hp
  have hC := hC.kept (fun q hq => hk q (by have := (hCA q hq).2; omega) (fun (h : q = z + 31 ∨ z + 31 + 1 ≤ q) => by have := (hCA q hq).2; omega))
  have hMA : ∀ q, MA (mAd (z + 31) (z + 31 + 1)) q → z + 31 ≤ q := fun q hq => by
    obtain ⟨k, h1, e1⟩ := hq
    have := mAd_r (b := z + 31) (z := z + 31 + 1) k h1
    omega
  refine lv_astore_n (lv' := [(2, .ref (z + 31)), (1, .ref z), (0, .ref b)]) hx hb dL_law_15 rfl hl (by decide) rfl (fun ls hl => ?_)
  refine z_iconst hx hb dL_law_16 ?_
  refine lv_istore_n (lv' := [(3, .int (iI 0)), (2, .ref (z + 31)), (1, .ref z), (0, .ref b)]) hx hb dL_law_17 rfl hl (by decide) rfl (fun ls hl => ?_)
  refine W.widen (k := 60 + 10 * 0) (n := 3000 + 154 * 0) (Nat.le_of_ble_eq_true rfl) (Nat.le_of_ble_eq_true rfl) ?_
  exact law_loop ⟨hx, hb, hml, hts, hown, hX, hbl, hK, hE, hL⟩ hr hlocks 513 0 rfl (Nat.zero_le _) (cAd z (z + 1)) τ0 (fun _ _ => 0) H locs ls IZ.zero ⟨hC, hM, fun q hq => by rw [hz]; exact (hCA q hq).1, fun q hq => by have := hMA q hq; omega, fun q hq hq2 => by have h1 := (hCA q hq).2; have h2 := hMA q hq2; omega⟩ hS (lv_sub hl [3, 2, 1, 0] rfl)
set_option maxHeartbeats 4000000 in
theorem lw_walk (l : Launch) (b : Addr) (xs : List Int32) : MetFree l x (headSpec (Jvm.Cond.code x code maxLocals ret :: tables_1) room_1) (lw_P b xs) (fun _ _ _ _ _ => True) lw_Q := by
  refine MetFree.of_bodyS (code := code) (maxLocals := maxLocals) (ret := ret) (by decide) ?_ ?_
  · intro args s m h hn
    obtain ⟨meth, c, h1, h2, h3, h4, h5, h6, -, -⟩ := Cond.code_spec hn (atoms_spec (ws := Jvm.Cond.code x code maxLocals ret :: tables_1) h _ List.mem_cons_self)
    exact ⟨meth, c, h1, h2, h3, h4, h5, h6⟩
  · intro p e s m args below meth c s₁ B hml0 hP _
    obtain ⟨rfl, hx, hbd, hgv⟩ := hP
    obtain ⟨scr, harrAt, hlist, hof, hsmall⟩ := hx
    obtain ⟨hcb, hkn, -, -⟩ := State.arrayAt?_spec harrAt
    have hown : s.vm.findClass R_law = some m.cls := findClass_of_methodNamed B.named
    have hts0 : ∀ c ∈ (Jvm.Cond.code x code maxLocals ret :: tables_1), c.before #[Value.ref b] s = true := atoms_spec (ws := Jvm.Cond.code x code maxLocals ret :: tables_1) B.pre
    have hts : ∀ w ∈ lw_tbl, w.before #[Value.ref b] s = true := k2_hts_sels lw_privs (fun w hw => hts0 w (List.mem_cons_of_mem _ hw)) lw_privs_ok
    have hml : c.maxLocals = 4 := B.maxLocals_eq (hts0 _ List.mem_cons_self)
    have X₀ : Stand p l e room_1 s m #[Value.ref b] below meth c s₁ [] 0 0 := Stand.of_body B
    have hh0 : s₁.heap = s.heap := by rw [B.state]; rfl
    have hsz : scr.slots.size = xs.length := by rw [← Array.length_toList, hlist, List.length_map]
    have hval : ∀ j : Nat, j < xs.length → scr.slots[j]? = some (.int (xs.getD j 0)) := fun j hj => by
      rw [← Array.getElem?_toList, hlist]
      simp [hj]
    have hbl : b < s.heap.size := (Array.getElem?_eq_some_iff.mp hcb).1
    have hX : va_X b xs.length (fun j => xs.getD j 0) s s.heap := ⟨scr, hcb, hof, hkn, hsz, hval⟩
    have K : W p l e room_1 s m #[Value.ref b] below meth c s₁.heap [] 0 0 (lw_Z below #[Value.ref b] s) (entryFrame m ([Value.ref b] : List Value).toArray 4) := by
      rw [hh0]
      exact whole_start l hbd ⟨B.exec, B.bytes, B.returns, hml, hown, hts, hX, hbl, B.notSynchronized, hgv⟩
    obtain ⟨t, a1, o, b1, b2, b3⟩ := K s₁ rfl X₀
    exact ⟨t, o, a1, b1, b2, b3⟩
theorem lw_pre_spec {args : Array Value} {s : State} (h : (Jvm.Cond.and given_1 narrow_1).before args s = true) (hr : rest_1_c.before args s = true) : ∃ (b : Addr) (xs : List Int32), lw_P b xs args s := by
  have hs := flat_of_before _ h
  have hq := flat_of_before _ hr
  have hc : (Cond.count 1).before args s = true := hs _ (by decide +kernel)
  have harr : (Cond.arrayOf (.arg 0) .int).before args s = true := hs _ (by decide +kernel)
  have hle : (Cond.le (.length (.arg 0)) (.int 3072)).before args s = true := hs _ (by decide +kernel)
  have hlen : (Cond.isInt (.length (.arg 0))).before args s = true := hq _ (by decide +kernel)
  have hall : (Cond.all (.arg 0) (.isInt (.elem (.arg 0) (.index 0)))).before args s = true := hq _ (by decide +kernel)
  obtain ⟨b, xs, hb, hx⟩ := State.ints_of_pre rfl harr hlen hall
  have hsm : xs.length < 2 ^ 31 := hx.choose_spec.2.2.2
  have hev : (Term.length (.arg 0)).eval args s none [] s = some (.int xs.length.toInt32) := hx.length_eval hb
  have hv := Cond.le_ints hev (show (Term.int 3072).eval args s none [] s = some (.int 3072) from rfl)
  have hd : xs.length.toInt32 ≤ 3072 := by
    simpa [Cond.before, Cond.holds, hv] using hle
  have hN : xs.length ≤ 3072 := (Int32.ofNat_le_ofNat hsm (by decide)).mp (show Int32.ofNat xs.length ≤ Int32.ofNat 3072 from hd)
  exact ⟨b, xs, Cond.one_arg hc (show args[0]? = some (.ref b) from hb), hx, hN, h⟩
theorem lw_comes (l : Launch) : Comes l x (Jvm.Cond.code x code maxLocals ret :: tables_1) room_1 (fun tb e args s => Calls_1 tb e args s ∧ rest_1 tb e args s ∧ Pre_1 tb e args s)
    (fun _ _ args s o t => lw_Q args s o t) := by
  intro p e ha hc hk s m args below hf hfit hheap happ hpre
  obtain ⟨b, xs, hP⟩ := lw_pre_spec hpre.2.2 hpre.2.1
  obtain ⟨k, o, h1, h2, h3, hQ⟩ := lw_walk l b xs p e ha hc hk s m args below hf ((Spec.applies_iff_loose hf).mp happ).1 hP trivial
  exact ⟨k, o, h1, h2, h3, hQ⟩
theorem lw_frame {s t : State} {o : Outcome} {args : Array Value} (h : Framed s o t [] 600000 7302250) :
    Framed s o t (fieldLocs frame_1_writes args s ++ arrayLocs frame_1_arrays args s ++ staticLocs frame_1_statics s) 600000 7302250 := h
theorem lw_limb (L : Cond) (hL : ∀ (args : Array Value) (s t : State), L.after args s (.returned (some (.int 1))) t = true) :
    ArmFor flags0 classFile x code maxLocals ret World_1 tables_1 room_1 Calls_1 rest_1 Pre_1
      (fun tb e a s o t => postC L tb e a s o t ∧ Framed s o t (fieldLocs frame_1_writes a s ++ arrayLocs frame_1_arrays a s ++ staticLocs frame_1_statics s) 600000 7302250) := by
  intro l _ _ _ p e ha hc hk s m args below hf hfit hheap happ hpre
  obtain ⟨k, o, h1, h2, h3, rfl, hF⟩ := lw_comes l p e ha hc hk s m args below hf hfit hheap happ hpre
  exact ⟨k, _, h1, h2, h3, hL args s _, lw_frame hF⟩
theorem i_vc : Claimed_1_1 ∧ Claimed_1_2 := ⟨lw_limb limb_1_1 (fun args s t => by simp [limb_1_1, Cond.after, Cond.holds, Cond.value]), lw_limb limb_1_2 (fun args s t => Cond.after_iff.mpr (by
  first | (rw [show limb_1_2 = Cond.eq .result (.int 1) from rfl, Cond.eq_ints (x := 1) (y := 1) rfl rfl]; simp; done) | (simp [limb_1_2, Cond.value, Term.eval]; done)))⟩
