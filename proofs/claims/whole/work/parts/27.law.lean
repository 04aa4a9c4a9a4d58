/-! the class as it is made -/
def cAd (b z : Nat) : Adr := fun k i => match k with
  | 0 => b
  | 10 => z + 9 + i
  | k + 1 => z + k
theorem c_pos {b z k i : Nat} (h : cLive τ0 k i) : (k = 0 ∧ i = 0 ∧ cAd b z k i = b) ∨ (1 ≤ k ∧ k ≤ 9 ∧ i = 0 ∧ cAd b z k i = z + (k - 1)) ∨ (k = 10 ∧ i < 21 ∧ cAd b z k i = z + 9 + i) := by
  match k, h with
  | 0, h => exact Or.inl ⟨rfl, h, rfl⟩
  | 1, h => exact Or.inr (Or.inl ⟨by decide, by decide, h, rfl⟩)
  | 2, h => exact Or.inr (Or.inl ⟨by decide, by decide, h, rfl⟩)
  | 3, h => exact Or.inr (Or.inl ⟨by decide, by decide, h, rfl⟩)
  | 4, h => exact Or.inr (Or.inl ⟨by decide, by decide, h, rfl⟩)
  | 5, h => exact Or.inr (Or.inl ⟨by decide, by decide, h, rfl⟩)
  | 6, h => exact Or.inr (Or.inl ⟨by decide, by decide, h, rfl⟩)
  | 7, h => exact Or.inr (Or.inl ⟨by decide, by decide, h, rfl⟩)
  | 8, h => exact Or.inr (Or.inl ⟨by decide, by decide, h, rfl⟩)
  | 9, h => exact Or.inr (Or.inl ⟨by decide, by decide, h, rfl⟩)
  | 10, h => exact Or.inr (Or.inr ⟨rfl, h, rfl⟩)
  | 11, h =>
    have q : (i : Int) < 0 := h
    omega
  | 12, h =>
    have q : (i : Int) < 0 := h
    omega
  | 13, h =>
    have q : (i : Int) < 0 := h
    omega
  | 14, h =>
    have q : (i : Int) < 0 := h
    omega
  | 18, h =>
    have q : (i : Int) < 0 := h
    omega
  | 19, h =>
    have q : (i : Int) < 0 := h
    omega
  | 20, h =>
    have q : (i : Int) < 0 := h
    omega
  | 15, h =>
    have q : (i : Int) < 2 * 0 := h
    omega
  | 16, h =>
    have q : (i : Int) < 2 * 0 := h
    omega
  | 17, h =>
    have q : (i : Int) < 2 * 0 := h
    omega
  | 21, h =>
    have q : ((i / 16 : Nat) : Int) < 0 := h.1
    omega
  | k + 22, h => exact h.elim
theorem c_made {D : va_G} {cT : Nat → ClassId} {b z : Nat} {H : Heap} (hb : b < z) (h0 : OBJ D (b) 7 [.ref (z), .ref (z + 1), .ref (z + 2), .ref (z + 3), .ref (z + 4), .ref (z + 7), .int (iI 0), .int (iI 0), .int (iI 0), .int (iI (5)), .int (iI (100))] H) (h1 : RAR D (z) (cT 2) 4 (fun _ => none) H) (h2 : RAR D (z + 1) (cT 3) 30 (fun _ => none) H) (h3 : RAR D (z + 2) (cT 4) 6 (fun _ => none) H) (h4 : IAR D (z + 3) (cT 0) 10 (fun i => (i : Int)) H) (h5 : OBJ D (z + 4) 4 [.ref (z + 5), .ref (z + 6)] H) (h6 : IAR D (z + 5) (cT 0) 20 (fun _ => 0) H) (h7 : IAR D (z + 6) (cT 1) 20 (fun _ => 0) H) (h8 : OBJ D (z + 7) 3 [.ref (z + 8)] H) (h9 : RAR D (z + 8) (cT 6) 21 (fun i => some (z + 8 + 1 + i)) H) (h10 : ∀ i : Nat, i < 21 → IAR D (z + 8 + 1 + i) (cT 0) 21 (fun _ => 0) H) : CW D cT (cAd b z) τ0 (fun _ _ => 0) H := by
  refine ⟨fun k i hl => ?_, fun k i k2 i2 hl hl2 e => ?_⟩
  · match k, hl with
    | 0, hl => exact h0
    | 1, hl => exact RAR_cong h1 (fun h _ => (if_neg (show ¬ (h : Int) < 0 by omega)).symm)
    | 2, hl => exact RAR_cong h2 (fun h _ => (if_neg (show ¬ (h : Int) < 0 by omega)).symm)
    | 3, hl => exact RAR_cong h3 (fun h _ => (if_neg (show ¬ (h : Int) < 0 by omega)).symm)
    | 4, hl => exact IAR_cong h4 (fun i hi => (if_pos hi).symm)
    | 5, hl => exact h5
    | 6, hl => exact h6
    | 7, hl => exact h7
    | 8, hl => exact h8
    | 9, hl => exact RAR_cong h9 (fun i _ => by show some (z + 8 + 1 + i) = some (z + 9 + i); rfl)
    | 10, hl => exact h10 i hl
    | 11, hl =>
      have q : (i : Int) < 0 := hl
      omega
    | 12, hl =>
      have q : (i : Int) < 0 := hl
      omega
    | 13, hl =>
      have q : (i : Int) < 0 := hl
      omega
    | 14, hl =>
      have q : (i : Int) < 0 := hl
      omega
    | 18, hl =>
      have q : (i : Int) < 0 := hl
      omega
    | 19, hl =>
      have q : (i : Int) < 0 := hl
      omega
    | 20, hl =>
      have q : (i : Int) < 0 := hl
      omega
    | 15, hl =>
      have q : (i : Int) < 2 * 0 := hl
      omega
    | 16, hl =>
      have q : (i : Int) < 2 * 0 := hl
      omega
    | 17, hl =>
      have q : (i : Int) < 2 * 0 := hl
      omega
    | 21, hl =>
      have q : ((i / 16 : Nat) : Int) < 0 := hl.1
      omega
    | k + 22, hl => exact hl.elim
  · have a1 := c_pos (b := b) (z := z) hl
    have a2 := c_pos (b := b) (z := z) hl2
    omega
/-! what is scratch in the model is nothing to the class -/
theorem cell_eq {D : va_G} {cT : Nat → ClassId} {ad : Adr} {τ τ2 ρ : Tau} {k i : Nat} {H : Heap} (n : ∀ c, c ≠ 6 → c ≠ 7 → c ≠ 26 → τ2 c = τ c) : cCell D cT ad τ2 ρ k i H = cCell D cT ad τ ρ k i H := by
  unfold cCell
  rw [n 0 (by decide) (by decide) (by decide), n 12 (by decide) (by decide) (by decide), n 18 (by decide) (by decide) (by decide), n 25 (by decide) (by decide) (by decide), n 11 (by decide) (by decide) (by decide), n 1 (by decide) (by decide) (by decide), n 4 (by decide) (by decide) (by decide), n 27 (by decide) (by decide) (by decide), n 2 (by decide) (by decide) (by decide), n 3 (by decide) (by decide) (by decide), n 5 (by decide) (by decide) (by decide), n 8 (by decide) (by decide) (by decide), n 9 (by decide) (by decide) (by decide), n 10 (by decide) (by decide) (by decide), n 13 (by decide) (by decide) (by decide), n 14 (by decide) (by decide) (by decide), n 15 (by decide) (by decide) (by decide), n 16 (by decide) (by decide) (by decide), n 19 (by decide) (by decide) (by decide), n 20 (by decide) (by decide) (by decide), n 21 (by decide) (by decide) (by decide), n 22 (by decide) (by decide) (by decide), n 23 (by decide) (by decide) (by decide), n 24 (by decide) (by decide) (by decide)]
theorem live_eq {τ τ2 : Tau} {k i : Nat} (n : ∀ c, c ≠ 6 → c ≠ 7 → c ≠ 26 → τ2 c = τ c) : cLive τ2 k i = cLive τ k i := by
  unfold cLive
  rw [n 0 (by decide) (by decide) (by decide), n 12 (by decide) (by decide) (by decide), n 18 (by decide) (by decide) (by decide), n 19 (by decide) (by decide) (by decide)]
theorem CW.sc {D : va_G} {cT : Nat → ClassId} {ad : Adr} {τ τ2 ρ : Tau} {H : Heap} (hW : CW D cT ad τ ρ H) (h : Sc τ τ2) : CW D cT ad τ2 ρ H :=
  ⟨fun k i hl => by rw [cell_eq h.1]; exact hW.1 k i (by rw [← live_eq h.1]; exact hl), fun k i k2 i2 h1 h2 => hW.2 k i k2 i2 (by rw [← live_eq h.1]; exact h1) (by rw [← live_eq h.1]; exact h2)⟩
theorem CA.sc {ad : Adr} {τ τ2 : Tau} {q : Nat} (h : Sc τ τ2) (hq : CA ad τ2 q) : CA ad τ q := by
  obtain ⟨k, i, h1, h2⟩ := hq
  exact ⟨k, i, by rw [← live_eq h.1]; exact h1, h2⟩
theorem CA_stRun {ad : Adr} {τ : Tau} {a u v : Int} {q : Nat} (hq : CA ad (stRun τ a u v) q) : CA ad τ q := by
  obtain ⟨k, i, h, h2⟩ := hq
  refine ⟨k, i, ?_, h2⟩
  unfold stRun at h
  split at h
  · exact ((live_tu (by decide) (by decide) (by decide) (by decide)).mp ((live_tu (by decide) (by decide) (by decide) (by decide)).mp ((live_tu (by decide) (by decide) (by decide) (by decide)).mp ((live_tu (by decide) (by decide) (by decide) (by decide)).mp h))))
  · exact h
theorem CA_stMark {ad : Adr} {τ : Tau} {a u : Int} {q : Nat} (hq : CA ad (stMark τ a u) q) : CA ad τ q := by
  obtain ⟨k, i, h, h2⟩ := hq
  refine ⟨k, i, ?_, h2⟩
  unfold stMark at h
  split at h
  · exact ((live_tu (by decide) (by decide) (by decide) (by decide)).mp ((live_tu (by decide) (by decide) (by decide) (by decide)).mp h))
  · exact h
theorem CA_stLayer {ad : Adr} {τ : Tau} {a b u v : Int} {q : Nat} (hq : CA ad (stLayer τ a b u v) q) : CA ad τ q := by
  obtain ⟨k, i, h, h2⟩ := hq
  refine ⟨k, i, ?_, h2⟩
  unfold stLayer at h
  split at h
  · exact ((live_tu (by decide) (by decide) (by decide) (by decide)).mp ((live_tu (by decide) (by decide) (by decide) (by decide)).mp ((live_tu (by decide) (by decide) (by decide) (by decide)).mp h)))
  · exact h
theorem CA_stCode {ad : Adr} {τ : Tau} {a u : Int} {q : Nat} (hq : CA ad (stCode τ a u) q) : CA ad τ q := by
  obtain ⟨k, i, h, h2⟩ := hq
  refine ⟨k, i, ?_, h2⟩
  unfold stCode at h
  split at h
  · exact ((live_tu (by decide) (by decide) (by decide) (by decide)).mp h)
  · exact h
theorem CA_stLaw {ad : Adr} {τ : Tau} {a u : Int} {q : Nat} (hq : CA ad (stLaw τ a u) q) : CA ad τ q := by
  obtain ⟨k, i, h, h2⟩ := hq
  refine ⟨k, i, ?_, h2⟩
  unfold stLaw at h
  split at h
  · exact ((live_tu (by decide) (by decide) (by decide) (by decide)).mp h)
  · exact h
theorem CA_stRes {ad : Adr} {τ : Tau} {a b u : Int} {q : Nat} (hq : CA ad (stRes τ a b u) q) : CA ad τ q := by
  obtain ⟨k, i, h, h2⟩ := hq
  refine ⟨k, i, ?_, h2⟩
  unfold stRes at h
  split at h
  · exact ((live_tu (by decide) (by decide) (by decide) (by decide)).mp ((live_tu (by decide) (by decide) (by decide) (by decide)).mp h))
  · exact h
theorem CA_stExch {ad : Adr} {τ : Tau} {a u : Int} {q : Nat} (hq : CA ad (stExch τ a u) q) : CA ad τ q := by
  obtain ⟨k, i, h, h2⟩ := hq
  refine ⟨k, i, ?_, h2⟩
  unfold stExch at h
  split at h
  · exact live_tn.mp h
  · exact h
/-! the law's world: the class's cells, the model's cells, all of them new, and apart -/
def LW (D : va_G) (cT : Nat → ClassId) (ad : Adr) (am : Nat → Nat) (τ τm ρ : Tau) (z0 : Nat) (H : Heap) : Prop := CW D cT ad τ ρ H ∧ MW D (cT 0) (cT 1) am τm H ∧ (∀ q, CA ad τ q → z0 ≤ q) ∧ (∀ q, MA am q → z0 ≤ q) ∧ ∀ q, CA ad τ q → ¬ MA am q
theorem MW.lt {D : va_G} {cI cZ : ClassId} {am : Nat → Nat} {τ : Tau} {H : Heap} (h : MW D cI cZ am τ H) {q : Nat} (hq : MA am q) : q < H.size := by
  obtain ⟨c, hc, e⟩ := hq
  rw [e]
  rcases hc with h1 | h1
  · rw [h1]
    exact one_lt h.1
  · exact one_lt (h.2.1 c h1)
theorem LW.cw {D : va_G} {cT : Nat → ClassId} {ad : Adr} {am : Nat → Nat} {τ τ2 τm ρ ρ2 : Tau} {z0 : Nat} {H H1 : Heap} (h : LW D cT ad am τ τm ρ z0 H) (hW : CW D cT ad τ2 ρ2 H1) (hk : ∀ q : Nat, ¬ CA ad τ q → H1[q]? = H[q]?) (hl : ∀ q, CA ad τ2 q → CA ad τ q) : LW D cT ad am τ2 τm ρ2 z0 H1 :=
  ⟨hW, h.2.1.kept (fun q hq => hk q (fun hc => h.2.2.2.2 q hc hq)), fun q hq => h.2.2.1 q (hl q hq), h.2.2.2.1, fun q hq => h.2.2.2.2 q (hl q hq)⟩
theorem LW.cn {D : va_G} {cT : Nat → ClassId} {ad : Adr} {am : Nat → Nat} {τ τ2 τm ρ : Tau} {z0 : Nat} {H H1 : Heap} (h : LW D cT ad am τ τm ρ z0 H) (hz : z0 ≤ H.size) (hP : nP D cT ad τ τ2 ρ H.size H1) (hk : ∀ q : Nat, q < H.size → ¬ nA ad τ H.size q → H1[q]? = H[q]?) : ∃ ad2 : Adr, ad2 0 0 = ad 0 0 ∧ LW D cT ad2 am τ2 τm ρ z0 H1 := by
  obtain ⟨ad2, hL, hN, hW⟩ := hP
  have key : ∀ q, CA ad2 τ2 q → CA ad τ q ∨ H.size ≤ q := fun q hq => by
    obtain ⟨k, i, h1, e⟩ := hq
    by_cases g : cLive τ k i
    · exact Or.inl ⟨k, i, g, by rw [e, hL k i g]⟩
    · exact Or.inr (by rw [e]; exact hN k i h1 g)
  refine ⟨ad2, hL 0 0 rfl, hW, h.2.1.kept (fun q hq => hk q (h.2.1.lt hq) (fun hc => hc.elim (fun hc => h.2.2.2.2 q hc hq) (fun hc => absurd (h.2.1.lt hq) (Nat.not_lt.mpr hc)))), fun q hq => (key q hq).elim (h.2.2.1 q) (fun g => Nat.le_trans hz g), h.2.2.2.1, fun q hq => (key q hq).elim (h.2.2.2.2 q) (fun g hm => absurd (h.2.1.lt hm) (Nat.not_lt.mpr g))⟩
theorem LW.mw {D : va_G} {cT : Nat → ClassId} {ad : Adr} {am : Nat → Nat} {τ τm τn ρ : Tau} {z0 : Nat} {H H1 : Heap} (h : LW D cT ad am τ τm ρ z0 H) (hW : MW D (cT 0) (cT 1) am τn H1) (hk : ∀ q : Nat, ¬ MA am q → H1[q]? = H[q]?) : LW D cT ad am τ τn ρ z0 H1 :=
  ⟨h.1.kept (fun q hq => hk q (h.2.2.2.2 q hq)), hW, h.2.2⟩
theorem LW.sc {D : va_G} {cT : Nat → ClassId} {ad : Adr} {am : Nat → Nat} {τ τm τ2 ρ : Tau} {z0 : Nat} {H : Heap} (h : LW D cT ad am τ τm ρ z0 H) (hs : Sc τ τ2) : LW D cT ad am τ2 τm ρ z0 H :=
  ⟨h.1.sc hs, h.2.1, fun q hq => h.2.2.1 q (hq.sc hs), h.2.2.2.1, fun q hq => h.2.2.2.2 q (hq.sc hs)⟩
section LR
variable {p : Program} {l : Launch} {e : Env} {R : Room} {s : State} {m : MethodId} {args : Array Value} {below : List Frame} {meth : Method} {c : Code} {H : Heap} {locs : List Loc} {cells slots : Nat} {Q : State → Prop}
variable {cc : ByteArray} {pc : Nat} {ls : Array Slot} {rest : List Value} {D : va_G} {cT : Nat → ClassId} {ad : Adr} {am : Nat → Nat} {τ τ2 τm ρ : Tau} {Ts : List Cond}
variable {y : MethodName} {ws ws' : List Cond} {rm : Room} {bytes : ByteArray} {maxL nL n index mc ms : Nat} {ret : Option FieldType} {As st0 : List Value} {own C : String} {v : Option Value}
theorem l_mL {w : Int} (hexec : p.tables.exec = Jvm.exec) (hb : c.code = cc) (hml : c.maxLocals = nL) (hts : ∀ w ∈ Ts, w.before args s = true) (hown : s.vm.findClass own = some m.cls) (hK : va_K D vwCl (mT (cT 0) (cT 1)) s) (hW : MW D (cT 0) (cT 1) am τ H) (hM : Met l y ws rm (mPc D (cT 0) (cT 1) am τ (.ref (am 0) :: As)) (rL w) 0 0 NoA) (hG : GoodIn Ts (wsV own index RX8 y ws)) (hw : ws = Cond.code y bytes maxL ret :: ws') (hrc : rm.cells = 0) (hrs : rm.slots = 0)
    (hd : y.cls = RX8 ∧ y.cls ≠ "java/lang/invoke/MethodHandle" ∧ y.cls ≠ "java/lang/invoke/VarHandle" ∧ (parseMethodDescriptor y.desc).map (fun d => d.parameters.length) = some n) (hR : rm.frames + 1 ≤ R.frames ∧ 8 + (maxL + 11) + rm.locals ≤ R.locals) (hn : As.length = n) (hsize : ls.size = nL) (hst : st0 = As.reverse ++ .ref (am 0) :: rest) (hroom : (rest.map fun v => v.category).sum ≤ 8) (hc : cells ≤ R.cells ∧ slots ≤ R.slots) (hdg : decode cc pc = .ok (.invokevirtual index, 3))
    (kk : W p l e R s m args below meth c H locs cells slots Q (F0 m (pc + 3) ls (.long (lL w) :: rest))) : W p l e R s m args below meth c H locs cells slots Q (F0 m pc ls st0) := by
  intro T hT X
  obtain ⟨v2, st₀, t, T', L, h0, X', hL, e1, ⟨r, hv, hp, hh⟩, st⟩ := W.runV ⟨hexec, hb, hml, hown, hts⟩ hM (cwV n hts hG hw hrc hrs hd hR) (m_pre hK hW) rfl hn hsize hst (lv_room hroom) hdg hc T hT X
  cases hv
  obtain ⟨t2, a1, b1⟩ := (by rw [hp]; exact kk : W p l e R s m args below meth c H locs cells slots Q (F0 m (pc + 3) ls (.long r :: rest))) T' (by rw [e1, hh, h0]) (Stand.forget X' (fun q h => (hL q h).elim))
  exact ⟨t2, st t2 a1, b1⟩
theorem l_cW {P : Tau → Prop} (hexec : p.tables.exec = Jvm.exec) (hb : c.code = cc) (hml : c.maxLocals = nL) (hts : ∀ w ∈ Ts, w.before args s = true) (hown : s.vm.findClass own = some m.cls) (hK : va_K D vwCl (cTy cT) s) (hN : NW s) (hLW : LW D cT ad am τ τm ρ s.heap.size H) (hlv : ∀ q, CA ad τ2 q → CA ad τ q) (hrec : ∃ cell : Cell, H[ad 0 0]? = some cell ∧ cell.vm.isStatics = false ∧ s.vm.findClass C = some cell.cls) (hS : va_S (fun q : Nat => s.heap.size ≤ q) s.heap H locs) (hM : Met l y ws rm (cPc D cT ad τ ρ (.ref (ad 0 0) :: As)) (cQ D cT ad v τ τ2 P) 0 0 (CA ad τ)) (hG : GoodIn Ts (wsV own index C y ws)) (hw : ws = Cond.code y bytes maxL ret :: ws') (hrc : rm.cells = 0) (hrs : rm.slots = 0)
    (hd : y.cls = C ∧ y.cls ≠ "java/lang/invoke/MethodHandle" ∧ y.cls ≠ "java/lang/invoke/VarHandle" ∧ (parseMethodDescriptor y.desc).map (fun d => d.parameters.length) = some n) (hR : rm.frames + 1 ≤ R.frames ∧ 8 + (maxL + 11) + rm.locals ≤ R.locals) (hn : As.length = n) (hsize : ls.size = nL) (hst : st0 = As.reverse ++ .ref (ad 0 0) :: rest) (hroom : (rest.map fun v => v.category).sum ≤ 8) (hc : cells ≤ R.cells ∧ slots ≤ R.slots) (hdg : decode cc pc = .ok (.invokevirtual index, 3))
    (kk : ∀ (ρ2 : Tau) (H1 : Heap) (locs1 : List Loc), LW D cT ad am τ2 τm ρ2 s.heap.size H1 → va_S (fun q : Nat => s.heap.size ≤ q) s.heap H1 locs1 → W p l e R s m args below meth c H1 locs1 cells slots Q (F0 m (pc + 3) ls (v.toList ++ rest))) : W p l e R s m args below meth c H locs cells slots Q (F0 m pc ls st0) := by
  intro T hT X
  obtain ⟨v2, st₀, t, T', L, h0, X', hL, e1, ⟨hv, ⟨ρ2, hp, hw2⟩, hz, hk⟩, st⟩ := W.runV ⟨hexec, hb, hml, hown, hts⟩ hM (cwV n hts hG hw hrc hrs hd hR) (c_pre hK hN hLW.1 hrec) rfl hn hsize hst (lv_room hroom) hdg hc T hT X
  cases hv
  rw [h0] at hz hk
  obtain ⟨t2, a1, b1⟩ := kk ρ2 T'.heap (locs ++ L) (by rw [e1]; exact hLW.cw hw2 hk hlv) ⟨by rw [e1, hz]; exact hS.1, fun q h1 h2 => by rw [e1, hk q (fun h => h2 (hLW.2.2.1 q h))]; exact hS.2.1 q h1 h2, fun q hq => by
      rcases List.mem_append.mp hq with h | h
      · exact hS.2.2 q h
      · exact hLW.2.2.1 _ (hL q h)⟩ T' rfl X'
  exact ⟨t2, st t2 a1, b1⟩
theorem l_mX {P : Tau → Prop} (hexec : p.tables.exec = Jvm.exec) (hb : c.code = cc) (hml : c.maxLocals = nL) (hts : ∀ w ∈ Ts, w.before args s = true) (hown : s.vm.findClass own = some m.cls) (hK : va_K D vwCl (mT (cT 0) (cT 1)) s) (hLW : LW D cT ad am τ τm ρ s.heap.size H) (hS : va_S (fun q : Nat => s.heap.size ≤ q) s.heap H locs) (hM : Met l y ws rm (mPc D (cT 0) (cT 1) am τm (.ref (am 0) :: As)) (mX D (cT 0) (cT 1) am v P) 0 0 (MA am)) (hG : GoodIn Ts (wsV own index RX8 y ws)) (hw : ws = Cond.code y bytes maxL ret :: ws') (hrc : rm.cells = 0) (hrs : rm.slots = 0)
    (hd : y.cls = RX8 ∧ y.cls ≠ "java/lang/invoke/MethodHandle" ∧ y.cls ≠ "java/lang/invoke/VarHandle" ∧ (parseMethodDescriptor y.desc).map (fun d => d.parameters.length) = some n) (hR : rm.frames + 1 ≤ R.frames ∧ 8 + (maxL + 11) + rm.locals ≤ R.locals) (hn : As.length = n) (hsize : ls.size = nL) (hst : st0 = As.reverse ++ .ref (am 0) :: rest) (hroom : (rest.map fun v => v.category).sum ≤ 8) (hc : cells ≤ R.cells ∧ slots ≤ R.slots) (hdg : decode cc pc = .ok (.invokevirtual index, 3))
    (kk : ∀ τn : Tau, P τn → ∀ (H1 : Heap) (locs1 : List Loc), LW D cT ad am τ τn ρ s.heap.size H1 → va_S (fun q : Nat => s.heap.size ≤ q) s.heap H1 locs1 → W p l e R s m args below meth c H1 locs1 cells slots Q (F0 m (pc + 3) ls (v.toList ++ rest))) : W p l e R s m args below meth c H locs cells slots Q (F0 m pc ls st0) := by
  intro T hT X
  obtain ⟨v2, st₀, t, T', L, h0, X', hL, e1, ⟨hv, ⟨τn, hp', hw2⟩, hz, hk⟩, st⟩ := W.runV ⟨hexec, hb, hml, hown, hts⟩ hM (cwV n hts hG hw hrc hrs hd hR) (m_pre hK hLW.2.1) rfl hn hsize hst (lv_room hroom) hdg hc T hT X
  cases hv
  rw [h0] at hz hk
  obtain ⟨t2, a1, b1⟩ := kk τn hp' T'.heap (locs ++ L) (by rw [e1]; exact hLW.mw hw2 hk) ⟨by rw [e1, hz]; exact hS.1, fun q h1 h2 => by rw [e1, hk q (fun h => h2 (hLW.2.2.2.1 q h))]; exact hS.2.1 q h1 h2, fun q hq => by
      rcases List.mem_append.mp hq with h | h
      · exact hS.2.2 q h
      · exact hLW.2.2.2.1 _ (hL q h)⟩ T' rfl X'
  exact ⟨t2, st t2 a1, b1⟩
theorem l_mW {τn : Tau} (hexec : p.tables.exec = Jvm.exec) (hb : c.code = cc) (hml : c.maxLocals = nL) (hts : ∀ w ∈ Ts, w.before args s = true) (hown : s.vm.findClass own = some m.cls) (hK : va_K D vwCl (mT (cT 0) (cT 1)) s) (hLW : LW D cT ad am τ τm ρ s.heap.size H) (hS : va_S (fun q : Nat => s.heap.size ≤ q) s.heap H locs) (hM : Met l y ws rm (mPc D (cT 0) (cT 1) am τm (.ref (am 0) :: As)) (mQ D (cT 0) (cT 1) am v τn) 0 0 (MA am)) (hG : GoodIn Ts (wsV own index RX8 y ws)) (hw : ws = Cond.code y bytes maxL ret :: ws') (hrc : rm.cells = 0) (hrs : rm.slots = 0)
    (hd : y.cls = RX8 ∧ y.cls ≠ "java/lang/invoke/MethodHandle" ∧ y.cls ≠ "java/lang/invoke/VarHandle" ∧ (parseMethodDescriptor y.desc).map (fun d => d.parameters.length) = some n) (hR : rm.frames + 1 ≤ R.frames ∧ 8 + (maxL + 11) + rm.locals ≤ R.locals) (hn : As.length = n) (hsize : ls.size = nL) (hst : st0 = As.reverse ++ .ref (am 0) :: rest) (hroom : (rest.map fun v => v.category).sum ≤ 8) (hc : cells ≤ R.cells ∧ slots ≤ R.slots) (hdg : decode cc pc = .ok (.invokevirtual index, 3))
    (kk : ∀ (H1 : Heap) (locs1 : List Loc), LW D cT ad am τ τn ρ s.heap.size H1 → va_S (fun q : Nat => s.heap.size ≤ q) s.heap H1 locs1 → W p l e R s m args below meth c H1 locs1 cells slots Q (F0 m (pc + 3) ls (v.toList ++ rest))) : W p l e R s m args below meth c H locs cells slots Q (F0 m pc ls st0) := by
  intro T hT X
  obtain ⟨v2, st₀, t, T', L, h0, X', hL, e1, ⟨hv, hw2, hz, hk⟩, st⟩ := W.runV ⟨hexec, hb, hml, hown, hts⟩ hM (cwV n hts hG hw hrc hrs hd hR) (m_pre hK hLW.2.1) rfl hn hsize hst (lv_room hroom) hdg hc T hT X
  cases hv
  rw [h0] at hz hk
  obtain ⟨t2, a1, b1⟩ := kk T'.heap (locs ++ L) (by rw [e1]; exact hLW.mw hw2 hk) ⟨by rw [e1, hz]; exact hS.1, fun q h1 h2 => by rw [e1, hk q (fun h => h2 (hLW.2.2.2.1 q h))]; exact hS.2.1 q h1 h2, fun q hq => by
      rcases List.mem_append.mp hq with h | h
      · exact hS.2.2 q h
      · exact hLW.2.2.2.1 _ (hL q h)⟩ T' rfl X'
  exact ⟨t2, st t2 a1, b1⟩
theorem l_cN (hexec : p.tables.exec = Jvm.exec) (hb : c.code = cc) (hml : c.maxLocals = nL) (hts : ∀ w ∈ Ts, w.before args s = true) (hown : s.vm.findClass own = some m.cls) (hK : va_K D vwCl (cTy cT) s) (hE : EW s) (hLW : LW D cT ad am τ τm ρ s.heap.size H) (hrec : ∃ cell : Cell, H[ad 0 0]? = some cell ∧ cell.vm.isStatics = false ∧ s.vm.findClass C = some cell.cls) (hS : va_S (fun q : Nat => s.heap.size ≤ q) s.heap H locs) (hM : Met l y ws rm (nPc D (cTy cT) EW (fun H2 => H2.size = H.size ∧ CW D cT ad τ ρ H2) (.ref (ad 0 0) :: As)) (nQ v (nA ad τ H.size) (nP D cT ad τ τ2 ρ H.size)) mc ms (nA ad τ H.size)) (hG : GoodIn Ts (wsV own index C y ws)) (hw : ws = Cond.code y bytes maxL ret :: ws') (hrc : rm.cells = mc) (hrs : rm.slots = ms)
    (hd : y.cls = C ∧ y.cls ≠ "java/lang/invoke/MethodHandle" ∧ y.cls ≠ "java/lang/invoke/VarHandle" ∧ (parseMethodDescriptor y.desc).map (fun d => d.parameters.length) = some n) (hR : rm.frames + 1 ≤ R.frames ∧ 8 + (maxL + 11) + rm.locals ≤ R.locals) (hn : As.length = n) (hsize : ls.size = nL) (hst : st0 = As.reverse ++ .ref (ad 0 0) :: rest) (hroom : (rest.map fun v => v.category).sum ≤ 8) (hc : cells + mc ≤ R.cells ∧ slots + ms ≤ R.slots) (hdg : decode cc pc = .ok (.invokevirtual index, 3))
    (kk : ∀ (ad2 : Adr) (H1 : Heap) (locs1 : List Loc), ad2 0 0 = ad 0 0 → LW D cT ad2 am τ2 τm ρ s.heap.size H1 → va_S (fun q : Nat => s.heap.size ≤ q) s.heap H1 locs1 → W p l e R s m args below meth c H1 locs1 (cells + mc) (slots + ms) Q (F0 m (pc + 3) ls (v.toList ++ rest))) : W p l e R s m args below meth c H locs cells slots Q (F0 m pc ls st0) := by
  refine n_vcall hexec hb hml hts hown EW_mv hK hE ⟨rfl, hLW.1⟩ hrec hS (fun q h => h.elim (hLW.2.2.1 q) (fun g => Nat.le_trans hS.1 g)) hM hG hw hrc hrs hd hR hn hsize hst hroom hc hdg (fun H1 locs1 hp hz hk hS1 => ?_)
  obtain ⟨ad2, e1, h2⟩ := hLW.cn hS.1 hp hk
  exact kk ad2 H1 locs1 e1 h2 hS1
/-- an int of the script -/
theorem l_sld (hexec : p.tables.exec = Jvm.exec) (hb : c.code = cc) {b L : Nat} {xs : Nat → Int32} (hX : va_X b L xs s s.heap) (hbl : b < s.heap.size) (hS : va_S (fun q : Nat => s.heap.size ≤ q) s.heap H locs) {z : Int} (j : Nat) (hz : z = j) (hj : j < L) (hL : L ≤ 3072) (hdg : decode cc pc = .ok (.iaload, 1))
    (kk : W p l e R s m args below meth c H locs cells slots Q (F0 m (pc + 1) ls (.int (iI (xs j).toInt) :: rest))) : W p l e R s m args below meth c H locs cells slots Q (F0 m pc ls (.int (iI z) :: .ref b :: rest)) := by
  subst hz
  refine va_sld hexec hb hX hbl (Nat.not_le.mpr hbl) hS (iI_in hj (by omega)) hdg ?_
  rw [iI_clamp (by omega)]
  have e1 : xs j = iI (xs j).toInt := (Int32.ofInt_toInt (xs j)).symm
  rw [e1]
  exact kk
theorem l_eq (hexec : p.tables.exec = Jvm.exec) (hb : c.code = cc) {x : Int32} {off : Int} {tgt : Nat} (hdg : decode cc pc = .ok (.if_icmp .eq off, 3)) (ht : (pc : Int) + off = (tgt : Int))
    (kk : W p l e R s m args below meth c H locs cells slots Q (F0 m tgt ls rest)) : W p l e R s m args below meth c H locs cells slots Q (F0 m pc ls (.int x :: .int x :: rest)) := lv_icmp_eq hexec hb hdg ht (fun _ => kk) (fun h => absurd rfl h)
theorem l_leq (hexec : p.tables.exec = Jvm.exec) (hb : c.code = cc) {x : Int64} {off : Int} {tgt : Nat} (hd1 : decode cc pc = .ok (.lcmp, 1)) (hdg : decode cc (pc + 1) = .ok (.ifCond .eq off, 3)) (ht : ((pc + 1 : Nat) : Int) + off = (tgt : Int))
    (kk : W p l e R s m args below meth c H locs cells slots Q (F0 m tgt ls rest)) : W p l e R s m args below meth c H locs cells slots Q (F0 m pc ls (.long x :: .long x :: rest)) := by
  refine W.lcmp hexec hb hd1 ?_
  rw [(lg_cmp_eq x x).mpr rfl]
  exact lv_if_eq hexec hb hdg ht (fun _ => kk) (fun h => absurd rfl h)
theorem i_r (x : Int32) : I32 x.toInt := by
  have h1 := Int32.le_toInt x
  have h2 := Int32.toInt_lt x
  omega
theorem a31 (x : Int32) : ∃ k : Nat, k < 32 ∧ x &&& 31 = iI (k : Int) := by
  refine ⟨(x &&& 31).toBitVec.toNat, ?_, ?_⟩
  · have h1 : (x &&& 31).toBitVec = x.toBitVec &&& 31#32 := rfl
    rw [h1, BitVec.toNat_and]
    exact Nat.lt_of_le_of_lt Nat.and_le_right (by decide)
  · show x &&& 31 = Int32.ofInt ((x &&& 31).toBitVec.toNat : Int)
    apply Int32.toBitVec_inj.mp
    show (x &&& 31).toBitVec = BitVec.ofInt 32 ((x &&& 31).toBitVec.toNat : Int)
    rw [BitVec.ofInt_natCast, BitVec.ofNat_toNat, BitVec.setWidth_eq]
end LR
