theorem nP_rf {D : va_G} {cT : Nat → ClassId} {ad : Adr} {τ ρ : Tau} {z : Nat} {H : Heap} (hW : CW D cT ad τ ρ H) : nP D cT ad τ τ ρ z H := ⟨ad, fun _ _ _ => rfl, fun _ _ h h2 => absurd h h2, hW⟩
theorem CW.free {D : va_G} {cT : Nat → ClassId} {ad : Adr} {τ ρ : Tau} {c i : Nat} {v : Int} {H : Heap} (hW : CW D cT ad τ ρ H) (hc : c = 17 ∨ c = 6 ∨ c = 7 ∨ c = 26) : CW D cT ad (tu τ c i v) ρ H := by
  have hl : ∀ k i2, cLive (tu τ c i v) k i2 ↔ cLive τ k i2 := fun k i2 => live_tu (by omega) (by omega) (by omega) (by omega)
  refine ⟨fun k i2 h => cell_tu (fun d hd => ?_) (hW.1 k i2 ((hl k i2).mp h)), fun k i2 k2 i3 h1 h2 => hW.2 k i2 k2 i3 ((hl _ _).mp h1) ((hl _ _).mp h2)⟩
  have hk := deps_lt hd
  have key : ∀ k : Fin 22, ∀ d ∈ cDeps k.val, d ≠ 17 ∧ d ≠ 6 ∧ d ≠ 7 ∧ d ≠ 26 := by decide
  have := key ⟨k, hk⟩ d hd
  omega
def aplO (τ : Tau) (b : Nat) : Int := if hrO τ b = true then -103 else if τ 19 b = 16 then -104 else τ 19 b
def aplT (τ : Tau) (b : Nat) (k o f : Int) : Tau := if ¬ hrO τ b = true ∧ ¬ τ 19 b = 16 then adT τ b k o f else τ
def aqO (τ : Tau) (b j : Nat) : Int := if τ 16 j = 0 then -103 else aplO τ b
def aqT (τ : Tau) (b j : Nat) (k o : Int) : Tau := if ¬ τ 16 j = 0 ∧ ¬ hrO τ b = true ∧ ¬ τ 19 b = 16 then qtT (adT τ b k o 0) j else τ
set_option maxHeartbeats 4000000 in
set_option maxRecDepth 100000 in
theorem c7_hole (l : Launch) (D : va_G) (cT : Nat → ClassId) (ad : Adr) (τ ρ : Tau) (z : Nat) (hI : Inv τ) (hZ : Zer τ)   : Met l yX7_hole wsX7_hole { frames := 3, cells := 10, slots := 154, locals := 60 } (nPc D (cTy cT) EW (fun H => H.size = z ∧ CW D cT ad τ ρ H) [.ref (ad 0 0)]) (nQ (some (.int (iI (spHole τ)))) (nA ad τ z) (nP D cT ad τ (stHole τ) ρ z)) 10 154 (nA ad τ z) := by
  refine n_start (by decide) rfl (Nat.le_of_ble_eq_true rfl) ?_
  intro p e s m below meth c hx hb hr hlocks hml hts hown hname hpre hK hE ls hl
  have hinX1 : ∀ w ∈ wsX10, w ∈ wsX7_hole := by decide +kernel
  have hinX7 : ∀ w ∈ wsX70, w ∈ wsX7_hole := by decide +kernel
  obtain ⟨hz, hW⟩ := hpre
  have hNW := hE.1
  have hR : Rng τ := hI.1
  have hlt : ∀ k i, cLive τ k i → ad k i < z := fun k i hl => by have := hW.lt hl; omega
  have hS : va_S (nA ad τ z) s.heap s.heap [] := va_S.rf
  have hl : lv_has ls 1 [(0, .ref (ad 0 0))] := hl
  have hq0_0 : (0 : Int) ≤ τ 0 0 ∧ τ 0 0 ≤ 4 := hI.1 0 0
  refine lv_aload_n hx hb dX7_hole_0 rfl (lv_at hl 0 rfl) ?_
  refine y_get (C := RX7) (T := TX7) (N := 11) (ref := "CoreShed") (ci := 7) hx hb hts hinX7 hown hK (cw0 hW) rfl 6 (by decide) (hts _ (by decide +kernel)) rfl (v := .int (iI (τ 0 0))) rfl dX7_hole_1 ?_
  have r1 : (0 : Int) ≤ τ 0 0 ∧ τ 0 0 ≤ 4 := hI.1 0 0
  refine z_iconst hx hb dX7_hole_4 ?_
  refine z_icmp_lt (tgt := 11) hx hb (by omega) (by omega) dX7_hole_5 (by decide) (fun c2 => ?_) (fun c2 => ?_)
  · refine lv_aload_n hx hb dX7_hole_11 rfl (lv_at hl 0 rfl) ?_
    refine y_get (C := RX7) (T := TX7) (N := 11) (ref := "CoreShed") (ci := 7) hx hb hts hinX7 hown hK (cw0 hW) rfl 0 (by decide) (hts _ (by decide +kernel)) rfl (v := .ref (ad 1 0)) rfl dX7_hole_12 ?_
    refine lv_aload_n hx hb dX7_hole_15 rfl (lv_at hl 0 rfl) ?_
    refine y_get (C := RX7) (T := TX7) (N := 11) (ref := "CoreShed") (ci := 7) hx hb hts hinX7 hown hK (cw0 hW) rfl 6 (by decide) (hts _ (by decide +kernel)) rfl (v := .int (iI (τ 0 0))) rfl dX7_hole_16 ?_
    refine y_new (a := z) (C := RX1) (T := TX1) (N := 8) (ci := 1) (fs := [.null, .null, .null, .null, .null, .int (iI 0), .int (iI 0), .int (iI 0)]) hx hb hts hinX1 tyX1 tyX1_ok hown (hts (.classLink RX7 9 RX1) (by decide +kernel)) (hts (.instantiable RX1 8) (by decide +kernel)) (hts (.initialized RX1) (by decide +kernel)) hK hS rfl (fun j hj => by rcases (show j = 0 ∨ j = 1 ∨ j = 2 ∨ j = 3 ∨ j = 4 ∨ j = 5 ∨ j = 6 ∨ j = 7 by omega) with rfl | rfl | rfl | rfl | rfl | rfl | rfl | rfl <;> rfl) (Nat.le_of_ble_eq_true rfl) (Nat.le_of_ble_eq_true rfl) hz dX7_hole_19 (fun H hc0 hz1 hold hS => ?_)
    have hW := hW.kept (fun q hq => by obtain ⟨k, i, hl, e⟩ := hq; exact hold q (by rw [e]; exact hlt k i hl))
    refine lv_dup hx hb dX7_hole_22 rfl ?_
    refine n_callIN (n := 0) (b := z) (As := []) (rest := [.ref (z), .int (iI (τ 0 0)), .ref (ad 1 0)]) hx hb hml hts hown EW_mv hK hE ⟨hz1, Nat.lt_succ_self z, hc0⟩ hS (fun q (h : q = z ∨ z + 1 ≤ q) => (show nA ad τ z q from Or.inr (by omega))) (c1_init l D cT z (z + 1)) gX7_hole_X1_init_n55 rfl rfl rfl (hts (.initialized RX1) (by decide +kernel)) hE.1.2.2.2.1 (hts (.instanceMethod yX1_init) (by decide +kernel)) rfl (by decide +kernel) ⟨by decide, by decide⟩ rfl hl.1 rfl (Nat.le_of_ble_eq_true rfl) ⟨(Nat.le_of_ble_eq_true rfl), (Nat.le_of_ble_eq_true rfl)⟩ dX7_hole_23 (fun H locs hp hzz hk hS => ?_)
    obtain ⟨hz2, cn0, cn1, cn2, cn3, cn4, cn5, cn6, cn7, cn8, cn9⟩ := hp
    have hW := hW.kept (fun q hq => by obtain ⟨k, i, hl, e⟩ := hq; have := hlt k i hl; exact hk q (by omega) (fun (h : q = z ∨ z + 1 ≤ q) => by omega))
    refine y_aast (j := (τ 0 0).toNat) hx hb hK hS 2 1 (cw1 hW) (Or.inl ⟨1, 0, rfl, rfl⟩) rfl cn0 rfl (by omega) (by omega) (by decide) dX7_hole_26 (fun H locs hR1 hzz1 hoq1 hS => ?_)
    have cn0 := one_kept cn0 (hoq1 (z) (by have := hlt 1 0 rfl; omega))
    have cn1 := one_kept cn1 (hoq1 (z + 1) (by have := hlt 1 0 rfl; omega))
    have cn2 := one_kept cn2 (hoq1 (z + 2) (by have := hlt 1 0 rfl; omega))
    have cn3 := one_kept cn3 (hoq1 (z + 3) (by have := hlt 1 0 rfl; omega))
    have cn4 := one_kept cn4 (hoq1 (z + 4) (by have := hlt 1 0 rfl; omega))
    have cn5 := one_kept cn5 (hoq1 (z + 5) (by have := hlt 1 0 rfl; omega))
    have cn6 := one_kept cn6 (hoq1 (z + 6) (by have := hlt 1 0 rfl; omega))
    have cn7 := one_kept cn7 (hoq1 (z + 7) (by have := hlt 1 0 rfl; omega))
    have cn8 := one_kept cn8 (hoq1 (z + 8) (by have := hlt 1 0 rfl; omega))
    have cn9 := one_kept cn9 (hoq1 (z + 9) (by have := hlt 1 0 rfl; omega))
    have hO0 := one_kept (cw0 hW) (hoq1 (ad 0 0) (fun e => by have := (hW.2 0 0 1 0 rfl rfl e).1; cases this))
    refine lv_aload_n hx hb dX7_hole_27 rfl (lv_at hl 0 rfl) ?_
    refine lv_dup hx hb dX7_hole_28 rfl ?_
    refine y_get (C := RX7) (T := TX7) (N := 11) (ref := "CoreShed") (ci := 7) hx hb hts hinX7 hown hK hO0 rfl 6 (by decide) (hts _ (by decide +kernel)) rfl (v := .int (iI (τ 0 0))) rfl dX7_hole_29 ?_
    refine z_iconst hx hb dX7_hole_32 ?_
    refine z_iadd hx hb dX7_hole_33 ?_
    refine y_put (C := RX7) (T := TX7) (N := 11) (ref := "CoreShed") (ci := 7) (v := .int (iI ((τ 0 0) + 1))) (ty := .int) hx hb hts hinX7 tyX7 tyX7_ok nmX7 hown hK hS hO0 (Or.inl ⟨0, 0, rfl, rfl⟩) rfl 6 (by decide) (hts _ (by decide +kernel)) rfl rfl (by decide +kernel) rfl rfl (Nat.le_of_ble_eq_true rfl) dX7_hole_34 (fun H locs hO0 hzz2 hoq2 hS => ?_)
    have cn0 := one_kept cn0 (hoq2 (z) (by have := hlt 0 0 rfl; omega))
    have cn1 := one_kept cn1 (hoq2 (z + 1) (by have := hlt 0 0 rfl; omega))
    have cn2 := one_kept cn2 (hoq2 (z + 2) (by have := hlt 0 0 rfl; omega))
    have cn3 := one_kept cn3 (hoq2 (z + 3) (by have := hlt 0 0 rfl; omega))
    have cn4 := one_kept cn4 (hoq2 (z + 4) (by have := hlt 0 0 rfl; omega))
    have cn5 := one_kept cn5 (hoq2 (z + 5) (by have := hlt 0 0 rfl; omega))
    have cn6 := one_kept cn6 (hoq2 (z + 6) (by have := hlt 0 0 rfl; omega))
    have cn7 := one_kept cn7 (hoq2 (z + 7) (by have := hlt 0 0 rfl; omega))
    have cn8 := one_kept cn8 (hoq2 (z + 8) (by have := hlt 0 0 rfl; omega))
    have cn9 := one_kept cn9 (hoq2 (z + 9) (by have := hlt 0 0 rfl; omega))
    have hR1 := one_kept hR1 (hoq2 (ad 1 0) (fun e => by have := (hW.2 1 0 0 0 rfl rfl e).1; cases this))
    have oq := fun (q : Nat) (h1 : q ≠ ad 0 0) (h2 : q ≠ ad 1 0) => (hoq2 q h1).trans (hoq1 q h2)
    refine lv_aload_n hx hb dX7_hole_37 rfl (lv_at hl 0 rfl) ?_
    refine y_get (C := RX7) (T := TX7) (N := 11) (ref := "CoreShed") (ci := 7) hx hb hts hinX7 hown hK hO0 rfl 6 (by decide) (hts _ (by decide +kernel)) rfl (v := .int (iI ((τ 0 0) + 1))) rfl dX7_hole_38 ?_
    refine z_iconst hx hb dX7_hole_41 ?_
    refine z_isub hx hb dX7_hole_42 ?_
    exact n_iret hx hb hr hlocks (by unfold stHole; rw [if_pos (by omega)]; exact CW.hole (n := (τ 0 0).toNat) hW (by omega) hlt hZ oq hO0 hR1 cn0 cn1 cn2 cn3 cn4 cn5 cn6 cn7 cn8 cn9) hS (Nat.le_of_ble_eq_true rfl) (Nat.le_of_ble_eq_true rfl) (by unfold spHole; rw [if_neg (by omega)]; omega) dX7_hole_43
  · refine z_bipush hx hb dX7_hole_8 (by decide) ?_
    exact n_iret hx hb hr hlocks (by unfold stHole; rw [if_neg (fun hk => by first | omega | exact hk.1 (by assumption) | exact hk.2.1 (by assumption) | exact hk.2.2.1 (by assumption) | exact hk.2.2.2.1 (by assumption) | exact hk.2.2.2 (by assumption) | exact hk.2.2.2.2 (by assumption))]; exact nP_rf hW) hS (Nat.le_of_ble_eq_true rfl) (Nat.le_of_ble_eq_true rfl) (by unfold spHole; repeat (first | rw [if_pos (by first | assumption | omega)] | rw [if_neg (by first | assumption | omega | (intro hk; exact hk (by assumption)))])) dX7_hole_10
set_option maxHeartbeats 4000000 in
set_option maxRecDepth 100000 in
theorem c7_batch (l : Launch) (D : va_G) (cT : Nat → ClassId) (ad : Adr) (τ ρ : Tau) (z : Nat) (hI : Inv τ) (hZ : Zer τ)   : Met l yX7_batch wsX7_batch { frames := 2, cells := 2, slots := 18, locals := 40 } (nPc D (cTy cT) EW (fun H => H.size = z ∧ CW D cT ad τ ρ H) [.ref (ad 0 0)]) (nQ (some (.int (iI (spBatch τ)))) (nA ad τ z) (nP D cT ad τ (stBatch τ) ρ z)) 2 18 (nA ad τ z) := by
  refine n_start (by decide) rfl (Nat.le_of_ble_eq_true rfl) ?_
  intro p e s m below meth c hx hb hr hlocks hml hts hown hname hpre hK hE ls hl
  have hinX0 : ∀ w ∈ wsX00, w ∈ wsX7_batch := by decide +kernel
  have hinX7 : ∀ w ∈ wsX70, w ∈ wsX7_batch := by decide +kernel
  obtain ⟨hz, hW⟩ := hpre
  have hNW := hE.1
  have hR : Rng τ := hI.1
  have hlt : ∀ k i, cLive τ k i → ad k i < z := fun k i hl => by have := hW.lt hl; omega
  have hS : va_S (nA ad τ z) s.heap s.heap [] := va_S.rf
  have hl : lv_has ls 1 [(0, .ref (ad 0 0))] := hl
  have hq18_0 : (0 : Int) ≤ τ 18 0 ∧ τ 18 0 ≤ 6 := hI.1 18 0
  refine lv_aload_n hx hb dX7_batch_0 rfl (lv_at hl 0 rfl) ?_
  refine y_get (C := RX7) (T := TX7) (N := 11) (ref := "CoreShed") (ci := 7) hx hb hts hinX7 hown hK (cw0 hW) rfl 8 (by decide) (hts _ (by decide +kernel)) rfl (v := .int (iI (τ 18 0))) rfl dX7_batch_1 ?_
  have r1 : (0 : Int) ≤ τ 18 0 ∧ τ 18 0 ≤ 6 := hI.1 18 0
  refine z_bipush hx hb dX7_batch_4 (by decide) ?_
  refine z_icmp_lt (tgt := 12) hx hb (by omega) (by omega) dX7_batch_6 (by decide) (fun c2 => ?_) (fun c2 => ?_)
  · refine lv_aload_n hx hb dX7_batch_12 rfl (lv_at hl 0 rfl) ?_
    refine y_get (C := RX7) (T := TX7) (N := 11) (ref := "CoreShed") (ci := 7) hx hb hts hinX7 hown hK (cw0 hW) rfl 2 (by decide) (hts _ (by decide +kernel)) rfl (v := .ref (ad 3 0)) rfl dX7_batch_13 ?_
    refine lv_aload_n hx hb dX7_batch_16 rfl (lv_at hl 0 rfl) ?_
    refine y_get (C := RX7) (T := TX7) (N := 11) (ref := "CoreShed") (ci := 7) hx hb hts hinX7 hown hK (cw0 hW) rfl 8 (by decide) (hts _ (by decide +kernel)) rfl (v := .int (iI (τ 18 0))) rfl dX7_batch_17 ?_
    refine y_new (a := z) (C := RX0) (T := TX0) (N := 2) (ci := 0) (fs := [.null, .int (iI 0)]) hx hb hts hinX0 tyX0 tyX0_ok hown (hts (.classLink RX7 21 RX0) (by decide +kernel)) (hts (.instantiable RX0 2) (by decide +kernel)) (hts (.initialized RX0) (by decide +kernel)) hK hS rfl (fun j hj => by rcases (show j = 0 ∨ j = 1 by omega) with rfl | rfl <;> rfl) (Nat.le_of_ble_eq_true rfl) (Nat.le_of_ble_eq_true rfl) hz dX7_batch_20 (fun H hc0 hz1 hold hS => ?_)
    have hW := hW.kept (fun q hq => by obtain ⟨k, i, hl, e⟩ := hq; exact hold q (by rw [e]; exact hlt k i hl))
    refine lv_dup hx hb dX7_batch_23 rfl ?_
    refine n_callIN (n := 0) (b := z) (As := []) (rest := [.ref (z), .int (iI (τ 18 0)), .ref (ad 3 0)]) hx hb hml hts hown EW_mv hK hE ⟨hz1, Nat.lt_succ_self z, hc0⟩ hS (fun q (h : q = z ∨ z + 1 ≤ q) => (show nA ad τ z q from Or.inr (by omega))) (c0_init l D cT z (z + 1)) gX7_batch_X0_init_n166 rfl rfl rfl (hts (.initialized RX0) (by decide +kernel)) hE.1.1 (hts (.instanceMethod yX0_init) (by decide +kernel)) rfl (by decide +kernel) ⟨by decide, by decide⟩ rfl hl.1 rfl (Nat.le_of_ble_eq_true rfl) ⟨(Nat.le_of_ble_eq_true rfl), (Nat.le_of_ble_eq_true rfl)⟩ dX7_batch_24 (fun H locs hp hzz hk hS => ?_)
    obtain ⟨hz2, cn0, cn1⟩ := hp
    have hW := hW.kept (fun q hq => by obtain ⟨k, i, hl, e⟩ := hq; have := hlt k i hl; exact hk q (by omega) (fun (h : q = z ∨ z + 1 ≤ q) => by omega))
    refine y_aast (j := (τ 18 0).toNat) hx hb hK hS 4 0 (cw3 hW) (Or.inl ⟨3, 0, rfl, rfl⟩) rfl cn0 rfl (by omega) (by omega) (by decide) dX7_batch_27 (fun H locs hR1 hzz1 hoq1 hS => ?_)
    have cn0 := one_kept cn0 (hoq1 (z) (by have := hlt 3 0 rfl; omega))
    have cn1 := one_kept cn1 (hoq1 (z + 1) (by have := hlt 3 0 rfl; omega))
    have hO0 := one_kept (cw0 hW) (hoq1 (ad 0 0) (fun e => by have := (hW.2 0 0 3 0 rfl rfl e).1; cases this))
    refine lv_aload_n hx hb dX7_batch_28 rfl (lv_at hl 0 rfl) ?_
    refine lv_dup hx hb dX7_batch_29 rfl ?_
    refine y_get (C := RX7) (T := TX7) (N := 11) (ref := "CoreShed") (ci := 7) hx hb hts hinX7 hown hK hO0 rfl 8 (by decide) (hts _ (by decide +kernel)) rfl (v := .int (iI (τ 18 0))) rfl dX7_batch_30 ?_
    refine z_iconst hx hb dX7_batch_33 ?_
    refine z_iadd hx hb dX7_batch_34 ?_
    refine y_put (C := RX7) (T := TX7) (N := 11) (ref := "CoreShed") (ci := 7) (v := .int (iI ((τ 18 0) + 1))) (ty := .int) hx hb hts hinX7 tyX7 tyX7_ok nmX7 hown hK hS hO0 (Or.inl ⟨0, 0, rfl, rfl⟩) rfl 8 (by decide) (hts _ (by decide +kernel)) rfl rfl (by decide +kernel) rfl rfl (Nat.le_of_ble_eq_true rfl) dX7_batch_35 (fun H locs hO0 hzz2 hoq2 hS => ?_)
    have cn0 := one_kept cn0 (hoq2 (z) (by have := hlt 0 0 rfl; omega))
    have cn1 := one_kept cn1 (hoq2 (z + 1) (by have := hlt 0 0 rfl; omega))
    have hR1 := one_kept hR1 (hoq2 (ad 3 0) (fun e => by have := (hW.2 3 0 0 0 rfl rfl e).1; cases this))
    have oq := fun (q : Nat) (h1 : q ≠ ad 0 0) (h2 : q ≠ ad 3 0) => (hoq2 q h1).trans (hoq1 q h2)
    refine lv_aload_n hx hb dX7_batch_38 rfl (lv_at hl 0 rfl) ?_
    refine y_get (C := RX7) (T := TX7) (N := 11) (ref := "CoreShed") (ci := 7) hx hb hts hinX7 hown hK hO0 rfl 8 (by decide) (hts _ (by decide +kernel)) rfl (v := .int (iI ((τ 18 0) + 1))) rfl dX7_batch_39 ?_
    refine z_iconst hx hb dX7_batch_42 ?_
    refine z_isub hx hb dX7_batch_43 ?_
    exact n_iret hx hb hr hlocks (by unfold stBatch; rw [if_pos (by omega)]; exact CW.batch (n := (τ 18 0).toNat) hW hlt (by omega) hZ oq hO0 hR1 cn0 cn1) hS (Nat.le_of_ble_eq_true rfl) (Nat.le_of_ble_eq_true rfl) (by unfold spBatch; rw [if_neg (by omega)]; omega) dX7_batch_44
  · refine z_bipush hx hb dX7_batch_9 (by decide) ?_
    exact n_iret hx hb hr hlocks (by unfold stBatch; rw [if_neg (fun hk => by first | omega | exact hk.1 (by assumption) | exact hk.2.1 (by assumption) | exact hk.2.2.1 (by assumption) | exact hk.2.2.2.1 (by assumption) | exact hk.2.2.2 (by assumption) | exact hk.2.2.2.2 (by assumption))]; exact nP_rf hW) hS (Nat.le_of_ble_eq_true rfl) (Nat.le_of_ble_eq_true rfl) (by unfold spBatch; repeat (first | rw [if_pos (by first | assumption | omega)] | rw [if_neg (by first | assumption | omega | (intro hk; exact hk (by assumption)))])) dX7_batch_11
theorem fr_iff (τ : Tau) (x a b : Int) : frSO τ x a b = true ↔ (0 < rcO τ x.toNat a b ∧ ¬ tkO τ x a b = true) := by
  unfold frSO frK tkO
  rw [Bool.and_eq_true, decide_eq_true_iff, Bool.not_eq_true', Bool.not_eq_true]
set_option maxHeartbeats 4000000 in
set_option maxRecDepth 100000 in
theorem c7_sample (l : Launch) (D : va_G) (cT : Nat → ClassId) (ad : Adr) (τ ρ : Tau) (z : Nat) (hI : Inv τ) (hZ : Zer τ) (x : Int) (h_x : I32 x) (a : Int) (h_a : I32 a) (b : Int) (h_b : I32 b)  : Met l yX7_sample wsX7_sample { frames := 4, cells := 1, slots := 4, locals := 91 } (nPc D (cTy cT) EW (fun H => H.size = z ∧ CW D cT ad τ ρ H) [.ref (ad 0 0), .int (iI (x)), .int (iI (a)), .int (iI (b))]) (nQ (some (.int (iI (spSam τ x a b)))) (nA ad τ z) (nP D cT ad τ (stSam τ x a b) ρ z)) 1 4 (nA ad τ z) := by
  refine n_start (by decide) rfl (Nat.le_of_ble_eq_true rfl) ?_
  intro p e s m below meth c hx hb hr hlocks hml hts hown hname hpre hK hE ls hl
  have hinX6 : ∀ w ∈ wsX60, w ∈ wsX7_sample := by decide +kernel
  have hinX7 : ∀ w ∈ wsX70, w ∈ wsX7_sample := by decide +kernel
  obtain ⟨hz, hW⟩ := hpre
  have hNW := hE.1
  have hR : Rng τ := hI.1
  have hlt : ∀ k i, cLive τ k i → ad k i < z := fun k i hl => by have := hW.lt hl; omega
  have hS : va_S (nA ad τ z) s.heap s.heap [] := va_S.rf
  have hl : lv_has ls 5 [(0, .ref (ad 0 0)), (1, .int (iI (x))), (2, .int (iI (a))), (3, .int (iI (b)))] := hl
  have hq0_0 : (0 : Int) ≤ τ 0 0 ∧ τ 0 0 ≤ 4 := hI.1 0 0
  have hq12_0 : (0 : Int) ≤ τ 12 0 ∧ τ 12 0 ≤ 30 := hI.1 12 0
  have hen := hI.2.1 x.toNat
  have hen2 := hI.en x.toNat
  have hrc := rc_r hI.1 x.toNat a b
  have hfr := fr_iff τ x a b
  by_cases hh : 0 ≤ x ∧ x < τ 0 0
  · refine lv_aload_n hx hb dX7_sample_0 rfl (lv_at hl 0 rfl) ?_
    refine lv_iload_n hx hb dX7_sample_1 rfl (lv_at hl 1 rfl) ?_
    refine c_callR (n := 1) (As := [.int (iI (x))]) (rest := []) hx hb hml hts hown hK hNW hW (va_recv hK (cw0 hW) (ci := 7) (q0 := 0) rfl rfl) (c7_holeNamed_some l D cT ad τ ρ hI.1 x.toNat x (by omega) (by omega)) gX7_sample_X7_holeNamed rfl rfl rfl (by decide +kernel) ⟨by decide, by decide⟩ rfl hl.1 rfl (Nat.le_of_ble_eq_true rfl) ⟨Nat.zero_le _, Nat.zero_le _⟩ dX7_sample_2 ?_
    refine lv_astore (lv' := [(4, .ref (ad 11 x.toNat)), (0, .ref (ad 0 0)), (1, .int (iI (x))), (2, .int (iI (a))), (3, .int (iI (b)))]) hx hb dX7_sample_5 hl (by decide) rfl (fun ls hl => ?_)
    refine lv_aload hx hb dX7_sample_7 (lv_at hl 0 rfl) ?_
    refine lv_ifnonnull (tgt := 15) hx hb dX7_sample_9 (by decide) ?_
    refine lv_aload hx hb dX7_sample_15 (lv_at hl 0 rfl) ?_
    refine lv_iload_n hx hb dX7_sample_17 rfl (lv_at hl 3 rfl) ?_
    refine lv_iload_n hx hb dX7_sample_18 rfl (lv_at hl 4 rfl) ?_
    refine c_call (n := 2) (As := [.int (iI (a)), .int (iI (b))]) (rest := []) hx hb hml hts hown hK hNW hW (va_recv hK (cw11 hW (i := x.toNat) (by omega)) (ci := 1) (q0 := 0) rfl rfl) (c1_isStretch l D cT ad τ ρ hI.1 x.toNat (by omega) a (by omega) b (by omega)) gX7_sample_X1_isStretch rfl rfl rfl (by decide +kernel) ⟨by decide, by decide⟩ rfl hl.1 rfl (Nat.le_of_ble_eq_true rfl) ⟨Nat.zero_le _, Nat.zero_le _⟩ dX7_sample_19 ?_
    refine z_if_neB (tgt := 28) hx hb dX7_sample_22 (by decide) (fun c1 => ?_) (fun c1 => ?_)
    · refine lv_aload_n hx hb dX7_sample_28 rfl (lv_at hl 1 rfl) ?_
      refine lv_iload_n hx hb dX7_sample_29 rfl (lv_at hl 2 rfl) ?_
      refine lv_iload_n hx hb dX7_sample_30 rfl (lv_at hl 3 rfl) ?_
      refine lv_iload_n hx hb dX7_sample_31 rfl (lv_at hl 4 rfl) ?_
      refine c_call (n := 3) (As := [.int (iI (x)), .int (iI (a)), .int (iI (b))]) (rest := []) hx hb hml hts hown hK hNW hW (va_recv hK (cw0 hW) (ci := 7) (q0 := 0) rfl rfl) (c7_isTaken l D cT ad τ ρ hI.1 x (by omega) a (by omega) b (by omega) (by omega)) gX7_sample_X7_isTaken rfl rfl rfl (by decide +kernel) ⟨by decide, by decide⟩ rfl hl.1 rfl (Nat.le_of_ble_eq_true rfl) ⟨Nat.zero_le _, Nat.zero_le _⟩ dX7_sample_32 ?_
      refine z_if_neB (tgt := 48) hx hb dX7_sample_35 (by decide) (fun c2 => ?_) (fun c2 => ?_)
      · have hfx : ¬ frSO τ x a b = true := fun hk => (hfr.mp hk).2 c2
        refine z_bipush hx hb dX7_sample_48 (by decide) ?_
        exact n_iret hx hb hr hlocks (by unfold stSam; rw [if_neg (fun hk => by first | omega | exact hfx hk.2.2.1)]; exact nP_rf hW) hS (Nat.le_of_ble_eq_true rfl) (Nat.le_of_ble_eq_true rfl) (by unfold spSam; repeat (first | rw [if_pos (by first | assumption | omega)] | rw [if_neg (by first | assumption | omega | (intro hk; exact hk (by assumption)))])) dX7_sample_50
      · refine lv_aload hx hb dX7_sample_38 (lv_at hl 0 rfl) ?_
        refine lv_iload_n hx hb dX7_sample_40 rfl (lv_at hl 3 rfl) ?_
        refine lv_iload_n hx hb dX7_sample_41 rfl (lv_at hl 4 rfl) ?_
        refine c_call (n := 2) (As := [.int (iI (a)), .int (iI (b))]) (rest := []) hx hb hml hts hown hK hNW hW (va_recv hK (cw11 hW (i := x.toNat) (by omega)) (ci := 1) (q0 := 0) rfl rfl) (c1_coreWithin l D cT ad τ ρ hI.1 x.toNat (by omega) a (by omega) b (by omega) (by omega)) gX7_sample_X1_coreWithin rfl rfl rfl (by decide +kernel) ⟨by decide, by decide⟩ rfl hl.1 rfl (Nat.le_of_ble_eq_true rfl) ⟨Nat.zero_le _, Nat.zero_le _⟩ dX7_sample_42 ?_
        have r3 := rc_r hI.1 x.toNat a b
        refine z_if_ne (tgt := 51) hx hb (by omega) dX7_sample_45 (by decide) (fun c4 => ?_) (fun c4 => ?_)
        · have hfx : frSO τ x a b = true := hfr.mpr ⟨by omega, c2⟩
          refine lv_aload_n hx hb dX7_sample_51 rfl (lv_at hl 1 rfl) ?_
          refine y_get (C := RX7) (T := TX7) (N := 11) (ref := "CoreShed") (ci := 7) hx hb hts hinX7 hown hK (cw0 hW) rfl 7 (by decide) (hts _ (by decide +kernel)) rfl (v := .int (iI (τ 12 0))) rfl dX7_sample_52 ?_
          have r5 : (0 : Int) ≤ τ 12 0 ∧ τ 12 0 ≤ 30 := hI.1 12 0
          refine z_bipush hx hb dX7_sample_55 (by decide) ?_
          refine z_icmp_lt (tgt := 63) hx hb (by omega) (by omega) dX7_sample_57 (by decide) (fun c6 => ?_) (fun c6 => ?_)
          · refine lv_aload_n hx hb dX7_sample_63 rfl (lv_at hl 1 rfl) ?_
            refine y_get (C := RX7) (T := TX7) (N := 11) (ref := "CoreShed") (ci := 7) hx hb hts hinX7 hown hK (cw0 hW) rfl 1 (by decide) (hts _ (by decide +kernel)) rfl (v := .ref (ad 2 0)) rfl dX7_sample_64 ?_
            refine lv_aload_n hx hb dX7_sample_67 rfl (lv_at hl 1 rfl) ?_
            refine y_get (C := RX7) (T := TX7) (N := 11) (ref := "CoreShed") (ci := 7) hx hb hts hinX7 hown hK (cw0 hW) rfl 7 (by decide) (hts _ (by decide +kernel)) rfl (v := .int (iI (τ 12 0))) rfl dX7_sample_68 ?_
            refine y_new (a := z) (C := RX6) (T := TX6) (N := 4) (ci := 6) (fs := [.int (iI 0), .int (iI 0), .int (iI 0), .int (iI 0)]) hx hb hts hinX6 tyX6 tyX6_ok hown (hts (.classLink RX7 15 RX6) (by decide +kernel)) (hts (.instantiable RX6 4) (by decide +kernel)) (hts (.initialized RX6) (by decide +kernel)) hK hS rfl (fun j hj => by rcases (show j = 0 ∨ j = 1 ∨ j = 2 ∨ j = 3 by omega) with rfl | rfl | rfl | rfl <;> rfl) (Nat.le_of_ble_eq_true rfl) (Nat.le_of_ble_eq_true rfl) hz dX7_sample_71 (fun H hc0 hz1 hold hS => ?_)
            have hW := hW.kept (fun q hq => by obtain ⟨k, i, hl, e⟩ := hq; exact hold q (by rw [e]; exact hlt k i hl))
            refine lv_dup hx hb dX7_sample_74 rfl ?_
            refine lv_iload_n hx hb dX7_sample_75 rfl (lv_at hl 2 rfl) ?_
            refine lv_iload_n hx hb dX7_sample_76 rfl (lv_at hl 3 rfl) ?_
            refine lv_iload_n hx hb dX7_sample_77 rfl (lv_at hl 4 rfl) ?_
            refine n_callI (n := 3) (b := z) (As := [.int (iI (x)), .int (iI (a)), .int (iI (b))]) (rest := [.ref (z), .int (iI (τ 12 0)), .ref (ad 2 0)]) hx hb hml hts hown EW_mv hK hE ⟨hz1, Nat.lt_succ_self z, hc0⟩ hS (fun q (h : q = z ∨ z + 1 ≤ q) => (show nA ad τ z q from Or.inr (by omega))) (c6_init l D cT z (z + 1) x a b) gX7_sample_X6_init rfl rfl rfl (hts (.initialized RX6) (by decide +kernel)) (hts (.methodLink RX7 153 yX6_init) (by decide +kernel)) (hts (.instanceMethod yX6_init) (by decide +kernel)) rfl (by decide +kernel) ⟨by decide, by decide⟩ rfl hl.1 rfl (Nat.le_of_ble_eq_true rfl) ⟨(Nat.le_of_ble_eq_true rfl), (Nat.le_of_ble_eq_true rfl)⟩ dX7_sample_78 (fun H locs hp hzz hk hS => ?_)
            obtain ⟨hz2, cn0⟩ := hp
            have hW := hW.kept (fun q hq => by obtain ⟨k, i, hl, e⟩ := hq; have := hlt k i hl; exact hk q (by omega) (fun (h : q = z ∨ z + 1 ≤ q) => by omega))
            refine y_aast (j := (τ 12 0).toNat) hx hb hK hS 3 6 (cw2 hW) (Or.inl ⟨2, 0, rfl, rfl⟩) rfl cn0 rfl (by omega) (by omega) (by decide) dX7_sample_81 (fun H locs hR1 hzz1 hoq1 hS => ?_)
            have cn0 := one_kept cn0 (hoq1 (z) (by have := hlt 2 0 rfl; omega))
            have hO0 := one_kept (cw0 hW) (hoq1 (ad 0 0) (fun e => by have := (hW.2 0 0 2 0 rfl rfl e).1; cases this))
            refine lv_aload_n hx hb dX7_sample_82 rfl (lv_at hl 1 rfl) ?_
            refine lv_dup hx hb dX7_sample_83 rfl ?_
            refine y_get (C := RX7) (T := TX7) (N := 11) (ref := "CoreShed") (ci := 7) hx hb hts hinX7 hown hK hO0 rfl 7 (by decide) (hts _ (by decide +kernel)) rfl (v := .int (iI (τ 12 0))) rfl dX7_sample_84 ?_
            refine z_iconst hx hb dX7_sample_87 ?_
            refine z_iadd hx hb dX7_sample_88 ?_
            refine y_put (C := RX7) (T := TX7) (N := 11) (ref := "CoreShed") (ci := 7) (v := .int (iI ((τ 12 0) + 1))) (ty := .int) hx hb hts hinX7 tyX7 tyX7_ok nmX7 hown hK hS hO0 (Or.inl ⟨0, 0, rfl, rfl⟩) rfl 7 (by decide) (hts _ (by decide +kernel)) rfl rfl (by decide +kernel) rfl rfl (Nat.le_of_ble_eq_true rfl) dX7_sample_89 (fun H locs hO0 hzz2 hoq2 hS => ?_)
            have cn0 := one_kept cn0 (hoq2 (z) (by have := hlt 0 0 rfl; omega))
            have hR1 := one_kept hR1 (hoq2 (ad 2 0) (fun e => by have := (hW.2 2 0 0 0 rfl rfl e).1; cases this))
            have oq := fun (q : Nat) (h1 : q ≠ ad 0 0) (h2 : q ≠ ad 2 0) => (hoq2 q h1).trans (hoq1 q h2)
            refine lv_aload_n hx hb dX7_sample_92 rfl (lv_at hl 1 rfl) ?_
            refine y_get (C := RX7) (T := TX7) (N := 11) (ref := "CoreShed") (ci := 7) hx hb hts hinX7 hown hK hO0 rfl 7 (by decide) (hts _ (by decide +kernel)) rfl (v := .int (iI ((τ 12 0) + 1))) rfl dX7_sample_93 ?_
            refine z_iconst hx hb dX7_sample_96 ?_
            refine z_isub hx hb dX7_sample_97 ?_
            exact n_iret hx hb hr hlocks (by unfold stSam; rw [if_pos ⟨by omega, by omega, hfx, by omega⟩]; exact CW.sample (n := (τ 12 0).toNat) hW hlt (by omega) oq hO0 hR1 cn0) hS (Nat.le_of_ble_eq_true rfl) (Nat.le_of_ble_eq_true rfl) (by unfold spSam; rw [if_neg (by omega), if_neg (by omega), if_neg (fun hk => hk hfx), if_neg (by omega)]; omega) dX7_sample_98
          · refine z_bipush hx hb dX7_sample_60 (by decide) ?_
            exact n_iret hx hb hr hlocks (by unfold stSam; rw [if_neg (fun hk => by first | omega | exact hfx hk.2.2.1)]; exact nP_rf hW) hS (Nat.le_of_ble_eq_true rfl) (Nat.le_of_ble_eq_true rfl) (by unfold spSam; repeat (first | rw [if_pos (by first | assumption | omega)] | rw [if_neg (by first | assumption | omega | (intro hk; exact hk (by assumption)))])) dX7_sample_62
        · have hfx : ¬ frSO τ x a b = true := fun hk => by have := (hfr.mp hk).1; omega
          refine z_bipush hx hb dX7_sample_48 (by decide) ?_
          exact n_iret hx hb hr hlocks (by unfold stSam; rw [if_neg (fun hk => by first | omega | exact hfx hk.2.2.1)]; exact nP_rf hW) hS (Nat.le_of_ble_eq_true rfl) (Nat.le_of_ble_eq_true rfl) (by unfold spSam; repeat (first | rw [if_pos (by first | assumption | omega)] | rw [if_neg (by first | assumption | omega | (intro hk; exact hk (by assumption)))])) dX7_sample_50
    · refine z_bipush hx hb dX7_sample_25 (by decide) ?_
      exact n_iret hx hb hr hlocks (by unfold stSam; rw [if_neg (fun hk => by first | omega | exact hfx hk.2.2.1)]; exact nP_rf hW) hS (Nat.le_of_ble_eq_true rfl) (Nat.le_of_ble_eq_true rfl) (by unfold spSam; repeat (first | rw [if_pos (by first | assumption | omega)] | rw [if_neg (by first | assumption | omega | (intro hk; exact hk (by assumption)))])) dX7_sample_27
  · refine lv_aload_n hx hb dX7_sample_0 rfl (lv_at hl 0 rfl) ?_
    refine lv_iload_n hx hb dX7_sample_1 rfl (lv_at hl 1 rfl) ?_
    refine c_callR (n := 1) (As := [.int (iI (x))]) (rest := []) hx hb hml hts hown hK hNW hW (va_recv hK (cw0 hW) (ci := 7) (q0 := 0) rfl rfl) (c7_holeNamed_none l D cT ad τ ρ hI.1 x (by omega) (by omega)) gX7_sample_X7_holeNamed rfl rfl rfl (by decide +kernel) ⟨by decide, by decide⟩ rfl hl.1 rfl (Nat.le_of_ble_eq_true rfl) ⟨Nat.zero_le _, Nat.zero_le _⟩ dX7_sample_2 ?_
    refine lv_astoreN (lv' := [(4, .null), (0, .ref (ad 0 0)), (1, .int (iI (x))), (2, .int (iI (a))), (3, .int (iI (b)))]) hx hb dX7_sample_5 hl (by decide) rfl (fun ls hl => ?_)
    refine lv_aloadN hx hb dX7_sample_7 (lv_at hl 0 rfl) ?_
    refine lv_ifnonnullN hx hb dX7_sample_9 ?_
    refine z_bipush hx hb dX7_sample_12 (by decide) ?_
    exact n_iret hx hb hr hlocks (by unfold stSam; rw [if_neg (fun hk => by first | omega | exact hfx hk.2.2.1)]; exact nP_rf hW) hS (Nat.le_of_ble_eq_true rfl) (Nat.le_of_ble_eq_true rfl) (by unfold spSam; repeat (first | rw [if_pos (by first | assumption | omega)] | rw [if_neg (by first | assumption | omega | (intro hk; exact hk (by assumption)))])) dX7_sample_14
set_option maxHeartbeats 4000000 in
set_option maxRecDepth 100000 in
theorem c7_addPlace (l : Launch) (D : va_G) (cT : Nat → ClassId) (ad : Adr) (τ ρ : Tau) (z : Nat) (hI : Inv τ) (hZ : Zer τ) (b : Nat) (hlb : (b : Int) < τ 18 0) (k : Int) (h_k : I32 k) (o : Int) (h_o : I32 o) (f : Int) (h_f : I32 f)  : Met l yX7_addPlace wsX7_addPlace { frames := 2, cells := 1, slots := 5, locals := 43 } (nPc D (cTy cT) EW (fun H => H.size = z ∧ CW D cT ad τ ρ H) [.ref (ad 19 b), .int (iI (k)), .int (iI (o)), .int (iI (f))]) (nQ (some (.int (iI (aplO τ b)))) (nA ad τ z) (nP D cT ad τ (aplT τ b k o f) ρ z)) 1 5 (nA ad τ z) := by
  refine n_start (by decide) rfl (Nat.le_of_ble_eq_true rfl) ?_
  intro p e s m below meth c hx hb hr hlocks hml hts hown hname hpre hK hE ls hl
  have hinX0 : ∀ w ∈ wsX00, w ∈ wsX7_addPlace := by decide +kernel
  have hinX5 : ∀ w ∈ wsX50, w ∈ wsX7_addPlace := by decide +kernel
  obtain ⟨hz, hW⟩ := hpre
  have hNW := hE.1
  have hR : Rng τ := hI.1
  have hlt : ∀ k i, cLive τ k i → ad k i < z := fun k i hl => by have := hW.lt hl; omega
  have hS : va_S (nA ad τ z) s.heap s.heap [] := va_S.rf
  have hl : lv_has ls 4 [(0, .ref (ad 19 b)), (1, .int (iI (k))), (2, .int (iI (o))), (3, .int (iI (f)))] := hl
  have hq19_b : (0 : Int) ≤ τ 19 b ∧ τ 19 b ≤ 16 := hI.1 19 b
  refine lv_aload_n hx hb dX7_addPlace_0 rfl (lv_at hl 0 rfl) ?_
  refine c_call (n := 0) (As := []) (rest := []) hx hb hml hts hown hK hNW hW (va_recv hK (cw19 hW (i := b) (by omega)) (ci := 0) (q0 := 0) rfl rfl) (c0_hasAnyResult l D cT ad τ ρ hI.1 b (by omega)) gX7_addPlace_X0_hasAnyResult rfl rfl rfl (by decide +kernel) ⟨by decide, by decide⟩ rfl hl.1 rfl (Nat.le_of_ble_eq_true rfl) ⟨Nat.zero_le _, Nat.zero_le _⟩ dX7_addPlace_1 ?_
  refine z_if_eqB (tgt := 10) hx hb dX7_addPlace_4 (by decide) (fun c1 => ?_) (fun c1 => ?_)
  · refine lv_aload_n hx hb dX7_addPlace_10 rfl (lv_at hl 0 rfl) ?_
    refine y_get (C := RX0) (T := TX0) (N := 2) (ref := "CoreShed$Batch") (ci := 0) hx hb hts hinX0 hown hK (cw19 hW (i := b) (by omega)) rfl 1 (by decide) (hts _ (by decide +kernel)) rfl (v := .int (iI (τ 19 b))) rfl dX7_addPlace_11 ?_
    have r2 : (0 : Int) ≤ τ 19 b ∧ τ 19 b ≤ 16 := hI.1 19 b
    refine z_bipush hx hb dX7_addPlace_14 (by decide) ?_
    refine z_icmp_lt (tgt := 22) hx hb (by omega) (by omega) dX7_addPlace_16 (by decide) (fun c3 => ?_) (fun c3 => ?_)
    · refine lv_aload_n hx hb dX7_addPlace_22 rfl (lv_at hl 0 rfl) ?_
      refine y_get (C := RX0) (T := TX0) (N := 2) (ref := "CoreShed$Batch") (ci := 0) hx hb hts hinX0 hown hK (cw19 hW (i := b) (by omega)) rfl 0 (by decide) (hts _ (by decide +kernel)) rfl (v := .ref (ad 20 b)) rfl dX7_addPlace_23 ?_
      refine lv_aload_n hx hb dX7_addPlace_26 rfl (lv_at hl 0 rfl) ?_
      refine y_get (C := RX0) (T := TX0) (N := 2) (ref := "CoreShed$Batch") (ci := 0) hx hb hts hinX0 hown hK (cw19 hW (i := b) (by omega)) rfl 1 (by decide) (hts _ (by decide +kernel)) rfl (v := .int (iI (τ 19 b))) rfl dX7_addPlace_27 ?_
      refine y_new (a := z) (C := RX5) (T := TX5) (N := 5) (ci := 5) (fs := [.int (iI 0), .int (iI 0), .int (iI 0), .int (iI 0), .int (iI 0)]) hx hb hts hinX5 tyX5 tyX5_ok hown (hts (.classLink RX7 188 RX5) (by decide +kernel)) (hts (.instantiable RX5 5) (by decide +kernel)) (hts (.initialized RX5) (by decide +kernel)) hK hS rfl (fun j hj => by rcases (show j = 0 ∨ j = 1 ∨ j = 2 ∨ j = 3 ∨ j = 4 by omega) with rfl | rfl | rfl | rfl | rfl <;> rfl) (Nat.le_of_ble_eq_true rfl) (Nat.le_of_ble_eq_true rfl) hz dX7_addPlace_30 (fun H hc0 hz1 hold hS => ?_)
      have hW := hW.kept (fun q hq => by obtain ⟨k, i, hl, e⟩ := hq; exact hold q (by rw [e]; exact hlt k i hl))
      refine lv_dup hx hb dX7_addPlace_33 rfl ?_
      refine lv_iload_n hx hb dX7_addPlace_34 rfl (lv_at hl 1 rfl) ?_
      refine lv_iload_n hx hb dX7_addPlace_35 rfl (lv_at hl 2 rfl) ?_
      refine lv_iload_n hx hb dX7_addPlace_36 rfl (lv_at hl 3 rfl) ?_
      refine n_callI (n := 3) (b := z) (As := [.int (iI (k)), .int (iI (o)), .int (iI (f))]) (rest := [.ref (z), .int (iI (τ 19 b)), .ref (ad 20 b)]) hx hb hml hts hown EW_mv hK hE ⟨hz1, Nat.lt_succ_self z, hc0⟩ hS (fun q (h : q = z ∨ z + 1 ≤ q) => (show nA ad τ z q from Or.inr (by omega))) (c5_init l D cT z (z + 1) k o f) gX7_addPlace_X5_init rfl rfl rfl (hts (.initialized RX5) (by decide +kernel)) (hts (.methodLink RX7 281 yX5_init) (by decide +kernel)) (hts (.instanceMethod yX5_init) (by decide +kernel)) rfl (by decide +kernel) ⟨by decide, by decide⟩ rfl hl.1 rfl (Nat.le_of_ble_eq_true rfl) ⟨(Nat.le_of_ble_eq_true rfl), (Nat.le_of_ble_eq_true rfl)⟩ dX7_addPlace_37 (fun H locs hp hzz hk hS => ?_)
      obtain ⟨hz2, cn0⟩ := hp
      have hW := hW.kept (fun q hq => by obtain ⟨k, i, hl, e⟩ := hq; have := hlt k i hl; exact hk q (by omega) (fun (h : q = z ∨ z + 1 ≤ q) => by omega))
      refine y_aast (j := (τ 19 b).toNat) hx hb hK hS 5 5 (cw20 hW (i := b) (by omega)) (Or.inl ⟨20, b, hlb, rfl⟩) rfl cn0 rfl (by omega) (by omega) (by decide) dX7_addPlace_40 (fun H locs hR1 hzz1 hoq1 hS => ?_)
      have cn0 := one_kept cn0 (hoq1 (z) (by have := hlt 20 b hlb; omega))
      have hO0 := one_kept (cw19 hW (i := b) (by omega)) (hoq1 (ad 19 b) (fun e => by have := (hW.2 19 b 20 b hlb hlb e).1; cases this))
      refine lv_aload_n hx hb dX7_addPlace_41 rfl (lv_at hl 0 rfl) ?_
      refine lv_dup hx hb dX7_addPlace_42 rfl ?_
      refine y_get (C := RX0) (T := TX0) (N := 2) (ref := "CoreShed$Batch") (ci := 0) hx hb hts hinX0 hown hK hO0 rfl 1 (by decide) (hts _ (by decide +kernel)) rfl (v := .int (iI (τ 19 b))) rfl dX7_addPlace_43 ?_
      refine z_iconst hx hb dX7_addPlace_46 ?_
      refine z_iadd hx hb dX7_addPlace_47 ?_
      refine y_put (C := RX0) (T := TX0) (N := 2) (ref := "CoreShed$Batch") (ci := 0) (v := .int (iI ((τ 19 b) + 1))) (ty := .int) hx hb hts hinX0 tyX0 tyX0_ok nmX0 hown hK hS hO0 (Or.inl ⟨19, b, hlb, rfl⟩) rfl 1 (by decide) (hts _ (by decide +kernel)) rfl rfl (by decide +kernel) rfl rfl (Nat.le_of_ble_eq_true rfl) dX7_addPlace_48 (fun H locs hO0 hzz2 hoq2 hS => ?_)
      have cn0 := one_kept cn0 (hoq2 (z) (by have := hlt 19 b hlb; omega))
      have hR1 := one_kept hR1 (hoq2 (ad 20 b) (fun e => by have := (hW.2 20 b 19 b hlb hlb e).1; cases this))
      have oq := fun (q : Nat) (h1 : q ≠ ad 19 b) (h2 : q ≠ ad 20 b) => (hoq2 q h1).trans (hoq1 q h2)
      refine lv_aload_n hx hb dX7_addPlace_51 rfl (lv_at hl 0 rfl) ?_
      refine y_get (C := RX0) (T := TX0) (N := 2) (ref := "CoreShed$Batch") (ci := 0) hx hb hts hinX0 hown hK hO0 rfl 1 (by decide) (hts _ (by decide +kernel)) rfl (v := .int (iI ((τ 19 b) + 1))) rfl dX7_addPlace_52 ?_
      refine z_iconst hx hb dX7_addPlace_55 ?_
      refine z_isub hx hb dX7_addPlace_56 ?_
      exact n_iret hx hb hr hlocks (by unfold aplT; rw [if_pos ⟨by assumption, by omega⟩]; exact CW.place (n := (τ 19 b).toNat) hW hlt hlb (by omega) (by omega) hZ oq hO0 hR1 cn0) hS (Nat.le_of_ble_eq_true rfl) (Nat.le_of_ble_eq_true rfl) (by unfold aplO; rw [if_neg (by assumption), if_neg (by omega)]; omega) dX7_addPlace_57
    · refine z_bipush hx hb dX7_addPlace_19 (by decide) ?_
      exact n_iret hx hb hr hlocks (by unfold aplT; rw [if_neg (fun hk => by first | omega | exact hk.1 (by assumption))]; exact nP_rf hW) hS (Nat.le_of_ble_eq_true rfl) (Nat.le_of_ble_eq_true rfl) (by unfold aplO; repeat (first | rw [if_pos (by first | assumption | omega)] | rw [if_neg (by first | assumption | omega | (intro hk; exact hk (by assumption)))])) dX7_addPlace_21
  · refine z_bipush hx hb dX7_addPlace_7 (by decide) ?_
    exact n_iret hx hb hr hlocks (by unfold aplT; rw [if_neg (fun hk => by first | omega | exact hk.1 (by assumption))]; exact nP_rf hW) hS (Nat.le_of_ble_eq_true rfl) (Nat.le_of_ble_eq_true rfl) (by unfold aplO; repeat (first | rw [if_pos (by first | assumption | omega)] | rw [if_neg (by first | assumption | omega | (intro hk; exact hk (by assumption)))])) dX7_addPlace_9
