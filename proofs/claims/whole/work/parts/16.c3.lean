theorem ff_yes (f : Nat → Bool) : ∀ n : Nat, 0 ≤ ff f n → f (ff f n).toNat = true
  | 0, h => absurd h (show ¬ (0 : Int) ≤ -1 by decide)
  | n + 1, h => by
    have e : ff f (n + 1) = if 0 ≤ ff f n then ff f n else if f n then (n : Int) else -1 := rfl
    rw [e] at h ⊢
    by_cases h1 : 0 ≤ ff f n
    · rw [if_pos h1]
      exact ff_yes f n h1
    · rw [if_neg h1] at h ⊢
      by_cases h2 : f n = true
      · rw [if_pos h2, Int.toNat_natCast]
        exact h2
      · rw [if_neg h2] at h
        exact absurd h (by decide)
theorem ga_in {τ : Tau} (hR : Rng τ) (x : Int) (h : ¬ gaO τ x = -1) : (0 ≤ gaI τ x ∧ gaI τ x < τ 18 0) ∧ (0 ≤ plO τ (gaI τ x).toNat x ∧ plO τ (gaI τ x).toNat x < τ 19 (gaI τ x).toNat) ∧ (gaO τ x).toNat = 16 * (gaI τ x).toNat + (plO τ (gaI τ x).toNat x).toNat := by
  have h2 : (0 : Int) ≤ τ 18 0 ∧ τ 18 0 ≤ 6 := hR 18 0
  have hi : ¬ gaI τ x = -1 := fun e => h (by unfold gaO; rw [if_pos e])
  have h1 := ff_1 (gaB τ x) (τ 18 0).toNat
  have e1 : gaI τ x = ff (gaB τ x) (τ 18 0).toNat := rfl
  have h3 : 0 ≤ gaI τ x ∧ gaI τ x < τ 18 0 := by omega
  have hb := ff_yes (gaB τ x) (τ 18 0).toNat (by omega)
  rw [← e1] at hb
  have hp : ¬ plO τ (gaI τ x).toNat x = -1 := by
    unfold gaB at hb
    rw [Bool.and_eq_true, decide_eq_true_iff] at hb
    exact hb.1
  have h4 := ff_1 (plB τ (gaI τ x).toNat x) (τ 19 (gaI τ x).toNat).toNat
  have e2 : plO τ (gaI τ x).toNat x = ff (plB τ (gaI τ x).toNat x) (τ 19 (gaI τ x).toNat).toNat := rfl
  have h5 : (0 : Int) ≤ τ 19 (gaI τ x).toNat ∧ τ 19 (gaI τ x).toNat ≤ 16 := hR 19 _
  refine ⟨h3, by omega, ?_⟩
  unfold gaO
  rw [if_neg hi]
  omega
theorem mn_min (a b : Int) : mnI a b = min a b := by unfold mnI; split <;> omega
theorem cp_uw (τ : Tau) (k : Nat) (x a b t u : Int) : (uwI τ k x a b = 0 → cpS τ x a b t u k = 0) ∧ (¬ uwI τ k x a b = 0 → τ 13 k = x ∧ uwI τ k x a b = cm a b (τ 14 k) (τ 15 k)) := by
  unfold uwI
  constructor
  · intro h
    by_cases hx : τ 13 k = x
    · rw [if_pos hx] at h
      unfold cpS
      split
      · split
        · exact h
        · rw [h, Int.zero_mul]
      · rfl
    · exact cp_no (fun q => hx q.1)
  · intro h
    by_cases hx : τ 13 k = x
    · exact ⟨hx, if_pos hx⟩
    · rw [if_neg hx] at h
      exact absurd rfl h

set_option maxHeartbeats 4000000 in
set_option maxRecDepth 100000 in
theorem c7_end (l : Launch) (D : va_G) (cT : Nat → ClassId) (ad : Adr) (τ ρ : Tau) (hI : Inv τ) (a : Int) (h_a : I32 a)  : Met l yX7_end wsX7_end { frames := 1, cells := 0, slots := 0, locals := 21 } (cPc D cT ad τ ρ [.ref (ad 0 0), .int (iI (a))]) (rS (spEnd τ a)) 0 0 (NoA) := by
  refine c_start (by decide) rfl (Nat.le_of_ble_eq_true rfl) ?_
  intro p e s m below meth c hx hb hr hlocks hml hts hown hW hK hNW ls hl
  have hinX1 : ∀ w ∈ wsX10, w ∈ wsX7_end := by decide +kernel
  have hl : lv_has ls 3 [(0, .ref (ad 0 0)), (1, .int (iI (a)))] := hl
  have hq0_0 : (0 : Int) ≤ τ 0 0 ∧ τ 0 0 ≤ 4 := hI.1 0 0
  by_cases hh : 0 ≤ a ∧ a < τ 0 0
  · refine lv_aload_n hx hb dX7_end_0 rfl (lv_at hl 0 rfl) ?_
    refine lv_iload_n hx hb dX7_end_1 rfl (lv_at hl 1 rfl) ?_
    refine c_callR (n := 1) (As := [.int (iI (a))]) (rest := []) hx hb hml hts hown hK hNW hW (va_recv hK (cw0 hW) (ci := 7) (q0 := 0) rfl rfl) (c7_holeNamed_some l D cT ad τ ρ hI.1 a.toNat a (by omega) (by omega)) gX7_end_X7_holeNamed rfl rfl rfl (by decide +kernel) ⟨by decide, by decide⟩ rfl hl.1 rfl (Nat.le_of_ble_eq_true rfl) ⟨Nat.zero_le _, Nat.zero_le _⟩ dX7_end_2 ?_
    refine lv_astore_n (lv' := [(2, .ref (ad 11 a.toNat)), (0, .ref (ad 0 0)), (1, .int (iI (a)))]) hx hb dX7_end_5 rfl hl (by decide) rfl (fun ls hl => ?_)
    refine lv_aload_n hx hb dX7_end_6 rfl (lv_at hl 0 rfl) ?_
    refine lv_ifnonnull (tgt := 15) hx hb dX7_end_7 (by decide) ?_
    refine lv_aload_n hx hb dX7_end_15 rfl (lv_at hl 0 rfl) ?_
    refine y_get (C := RX1) (T := TX1) (N := 8) (ref := "CoreShed$Hole") (ci := 1) hx hb hts hinX1 hown hK (cw11 hW (i := a.toNat) (by omega)) rfl 7 (by decide) (hts _ (by decide +kernel)) rfl (v := .int (iI (τ 27 a.toNat))) rfl dX7_end_16 ?_
    have r1 : (0 : Int) ≤ τ 27 a.toNat ∧ τ 27 a.toNat ≤ 20000 := hI.1 27 a.toNat
    exact s_iret hx hb hr hlocks (by unfold spEnd; (first | rw [if_pos (by omega), ← hI.2.1] | rw [if_neg (by omega)])) dX7_end_19
  · refine lv_aload_n hx hb dX7_end_0 rfl (lv_at hl 0 rfl) ?_
    refine lv_iload_n hx hb dX7_end_1 rfl (lv_at hl 1 rfl) ?_
    refine c_callR (n := 1) (As := [.int (iI (a))]) (rest := []) hx hb hml hts hown hK hNW hW (va_recv hK (cw0 hW) (ci := 7) (q0 := 0) rfl rfl) (c7_holeNamed_none l D cT ad τ ρ hI.1 a (by omega) (by omega)) gX7_end_X7_holeNamed rfl rfl rfl (by decide +kernel) ⟨by decide, by decide⟩ rfl hl.1 rfl (Nat.le_of_ble_eq_true rfl) ⟨Nat.zero_le _, Nat.zero_le _⟩ dX7_end_2 ?_
    refine lv_astore_nN (lv' := [(2, .null), (0, .ref (ad 0 0)), (1, .int (iI (a)))]) hx hb dX7_end_5 rfl hl (by decide) rfl (fun ls hl => ?_)
    refine lv_aload_nN hx hb dX7_end_6 rfl (lv_at hl 0 rfl) ?_
    refine lv_ifnonnullN hx hb dX7_end_7 ?_
    refine z_bipush hx hb dX7_end_10 (by decide) ?_
    refine lv_goto (tgt := 19) hx hb dX7_end_12 (by decide) ?_
    exact s_iret hx hb hr hlocks (by unfold spEnd; (first | rw [if_pos (by omega), ← hI.2.1] | rw [if_neg (by omega)])) dX7_end_19
set_option maxHeartbeats 4000000 in
set_option maxRecDepth 100000 in
theorem c7_recovered (l : Launch) (D : va_G) (cT : Nat → ClassId) (ad : Adr) (τ ρ : Tau) (hI : Inv τ) (x : Int) (h_x : I32 x) (a : Int) (h_a : I32 a) (b : Int) (h_b : I32 b)  : Met l yX7_recovered wsX7_recovered { frames := 3, cells := 0, slots := 0, locals := 69 } (cPc D cT ad τ ρ [.ref (ad 0 0), .int (iI (x)), .int (iI (a)), .int (iI (b))]) (rS (spRec τ x a b)) 0 0 (NoA) := by
  refine c_start (by decide) rfl (Nat.le_of_ble_eq_true rfl) ?_
  intro p e s m below meth c hx hb hr hlocks hml hts hown hW hK hNW ls hl
  have hl : lv_has ls 5 [(0, .ref (ad 0 0)), (1, .int (iI (x))), (2, .int (iI (a))), (3, .int (iI (b)))] := hl
  have hq0_0 : (0 : Int) ≤ τ 0 0 ∧ τ 0 0 ≤ 4 := hI.1 0 0
  have hen := hI.2.1 x.toNat
  have hen2 := hI.en x.toNat
  by_cases hh : 0 ≤ x ∧ x < τ 0 0
  · refine lv_aload_n hx hb dX7_recovered_0 rfl (lv_at hl 0 rfl) ?_
    refine lv_iload_n hx hb dX7_recovered_1 rfl (lv_at hl 1 rfl) ?_
    refine c_callR (n := 1) (As := [.int (iI (x))]) (rest := []) hx hb hml hts hown hK hNW hW (va_recv hK (cw0 hW) (ci := 7) (q0 := 0) rfl rfl) (c7_holeNamed_some l D cT ad τ ρ hI.1 x.toNat x (by omega) (by omega)) gX7_recovered_X7_holeNamed rfl rfl rfl (by decide +kernel) ⟨by decide, by decide⟩ rfl hl.1 rfl (Nat.le_of_ble_eq_true rfl) ⟨Nat.zero_le _, Nat.zero_le _⟩ dX7_recovered_2 ?_
    refine lv_astore (lv' := [(4, .ref (ad 11 x.toNat)), (0, .ref (ad 0 0)), (1, .int (iI (x))), (2, .int (iI (a))), (3, .int (iI (b)))]) hx hb dX7_recovered_5 hl (by decide) rfl (fun ls hl => ?_)
    refine lv_aload hx hb dX7_recovered_7 (lv_at hl 0 rfl) ?_
    refine lv_ifnonnull (tgt := 15) hx hb dX7_recovered_9 (by decide) ?_
    refine lv_aload hx hb dX7_recovered_15 (lv_at hl 0 rfl) ?_
    refine lv_iload_n hx hb dX7_recovered_17 rfl (lv_at hl 3 rfl) ?_
    refine lv_iload_n hx hb dX7_recovered_18 rfl (lv_at hl 4 rfl) ?_
    refine c_call (n := 2) (As := [.int (iI (a)), .int (iI (b))]) (rest := []) hx hb hml hts hown hK hNW hW (va_recv hK (cw11 hW (i := x.toNat) (by omega)) (ci := 1) (q0 := 0) rfl rfl) (c1_isStretch l D cT ad τ ρ hI.1 x.toNat (by omega) a (by omega) b (by omega)) gX7_recovered_X1_isStretch rfl rfl rfl (by decide +kernel) ⟨by decide, by decide⟩ rfl hl.1 rfl (Nat.le_of_ble_eq_true rfl) ⟨Nat.zero_le _, Nat.zero_le _⟩ dX7_recovered_19 ?_
    refine z_if_neB (tgt := 28) hx hb dX7_recovered_22 (by decide) (fun c1 => ?_) (fun c1 => ?_)
    · refine lv_aload hx hb dX7_recovered_28 (lv_at hl 0 rfl) ?_
      refine lv_iload_n hx hb dX7_recovered_30 rfl (lv_at hl 3 rfl) ?_
      refine lv_iload_n hx hb dX7_recovered_31 rfl (lv_at hl 4 rfl) ?_
      refine c_call (n := 2) (As := [.int (iI (a)), .int (iI (b))]) (rest := []) hx hb hml hts hown hK hNW hW (va_recv hK (cw11 hW (i := x.toNat) (by omega)) (ci := 1) (q0 := 0) rfl rfl) (c1_coreWithin l D cT ad τ ρ hI.1 x.toNat (by omega) a (by omega) b (by omega) (by omega)) gX7_recovered_X1_coreWithin rfl rfl rfl (by decide +kernel) ⟨by decide, by decide⟩ rfl hl.1 rfl (Nat.le_of_ble_eq_true rfl) ⟨Nat.zero_le _, Nat.zero_le _⟩ dX7_recovered_32 ?_
      have r2 := rc_r hI.1 x.toNat a b
      exact s_iret hx hb hr hlocks (by unfold spRec; repeat (first | rw [if_pos (by first | assumption | omega)] | rw [if_neg (by first | assumption | omega | (intro hk; exact hk (by assumption)))])) dX7_recovered_35
    · refine z_bipush hx hb dX7_recovered_25 (by decide) ?_
      exact s_iret hx hb hr hlocks (by unfold spRec; repeat (first | rw [if_pos (by first | assumption | omega)] | rw [if_neg (by first | assumption | omega | (intro hk; exact hk (by assumption)))])) dX7_recovered_27
  · refine lv_aload_n hx hb dX7_recovered_0 rfl (lv_at hl 0 rfl) ?_
    refine lv_iload_n hx hb dX7_recovered_1 rfl (lv_at hl 1 rfl) ?_
    refine c_callR (n := 1) (As := [.int (iI (x))]) (rest := []) hx hb hml hts hown hK hNW hW (va_recv hK (cw0 hW) (ci := 7) (q0 := 0) rfl rfl) (c7_holeNamed_none l D cT ad τ ρ hI.1 x (by omega) (by omega)) gX7_recovered_X7_holeNamed rfl rfl rfl (by decide +kernel) ⟨by decide, by decide⟩ rfl hl.1 rfl (Nat.le_of_ble_eq_true rfl) ⟨Nat.zero_le _, Nat.zero_le _⟩ dX7_recovered_2 ?_
    refine lv_astoreN (lv' := [(4, .null), (0, .ref (ad 0 0)), (1, .int (iI (x))), (2, .int (iI (a))), (3, .int (iI (b)))]) hx hb dX7_recovered_5 hl (by decide) rfl (fun ls hl => ?_)
    refine lv_aloadN hx hb dX7_recovered_7 (lv_at hl 0 rfl) ?_
    refine lv_ifnonnullN hx hb dX7_recovered_9 ?_
    refine z_bipush hx hb dX7_recovered_12 (by decide) ?_
    exact s_iret hx hb hr hlocks (by unfold spRec; repeat (first | rw [if_pos (by first | assumption | omega)] | rw [if_neg (by first | assumption | omega | (intro hk; exact hk (by assumption)))])) dX7_recovered_14
set_option maxHeartbeats 4000000 in
set_option maxRecDepth 100000 in
theorem c7_rock (l : Launch) (D : va_G) (cT : Nat → ClassId) (ad : Adr) (τ ρ : Tau) (hI : Inv τ) (a : Int) (h_a : I32 a) (b : Int) (h_b : I32 b) (x : Int) (h_x : I32 x)  : Met l yX7_rock wsX7_rock { frames := 2, cells := 0, slots := 0, locals := 44 } (cPc D cT ad τ ρ [.ref (ad 0 0), .int (iI (a)), .int (iI (b)), .int (iI (x))]) (rS (spRock τ a b x)) 0 0 (NoA) := by
  refine c_start (by decide) rfl (Nat.le_of_ble_eq_true rfl) ?_
  intro p e s m below meth c hx hb hr hlocks hml hts hown hW hK hNW ls hl
  have hinX2 : ∀ w ∈ wsX20, w ∈ wsX7_rock := by decide +kernel
  have hinX7 : ∀ w ∈ wsX70, w ∈ wsX7_rock := by decide +kernel
  have hl : lv_has ls 6 [(0, .ref (ad 0 0)), (1, .int (iI (a))), (2, .int (iI (b))), (3, .int (iI (x)))] := hl
  have hq0_0 : (0 : Int) ≤ τ 0 0 ∧ τ 0 0 ≤ 4 := hI.1 0 0
  have hq8_2atoNatbtoNat : (0 : Int) ≤ τ 8 (2 * a.toNat + b.toNat) ∧ τ 8 (2 * a.toNat + b.toNat) ≤ 20 := hI.1 8 (2 * a.toNat + b.toNat)
  by_cases hh : (0 ≤ a ∧ a < τ 0 0) ∧ (0 ≤ b ∧ b ≤ 1)
  · refine lv_aload_n hx hb dX7_rock_0 rfl (lv_at hl 0 rfl) ?_
    refine lv_iload_n hx hb dX7_rock_1 rfl (lv_at hl 1 rfl) ?_
    refine lv_iload_n hx hb dX7_rock_2 rfl (lv_at hl 2 rfl) ?_
    refine c_callR (n := 2) (As := [.int (iI (a)), .int (iI (b))]) (rest := []) hx hb hml hts hown hK hNW hW (va_recv hK (cw0 hW) (ci := 7) (q0 := 0) rfl rfl) (c7_logNamed_some l D cT ad τ ρ hI.1 a.toNat a (by omega) b.toNat b (by omega) (by omega) (by omega)) gX7_rock_X7_logNamed rfl rfl rfl (by decide +kernel) ⟨by decide, by decide⟩ rfl hl.1 rfl (Nat.le_of_ble_eq_true rfl) ⟨Nat.zero_le _, Nat.zero_le _⟩ dX7_rock_3 ?_
    refine lv_astore (lv' := [(4, .ref (ad 15 (2 * a.toNat + b.toNat))), (0, .ref (ad 0 0)), (1, .int (iI (a))), (2, .int (iI (b))), (3, .int (iI (x)))]) hx hb dX7_rock_6 hl (by decide) rfl (fun ls hl => ?_)
    refine lv_aload hx hb dX7_rock_8 (lv_at hl 0 rfl) ?_
    refine lv_ifnonnull (tgt := 16) hx hb dX7_rock_10 (by decide) ?_
    refine lv_aload hx hb dX7_rock_16 (lv_at hl 0 rfl) ?_
    refine lv_iload_n hx hb dX7_rock_18 rfl (lv_at hl 4 rfl) ?_
    refine c_call (n := 1) (As := [.int (iI (x))]) (rest := []) hx hb hml hts hown hK hNW hW (va_recv hK (cw15 hW (i := 2 * a.toNat + b.toNat) (by omega)) (ci := 2) (q0 := 0) rfl rfl) (c2_indexAt l D cT ad τ ρ hI.1 (2 * a.toNat + b.toNat) (by omega) x (by omega)) gX7_rock_X2_indexAt rfl rfl rfl (by decide +kernel) ⟨by decide, by decide⟩ rfl hl.1 rfl (Nat.le_of_ble_eq_true rfl) ⟨Nat.zero_le _, Nat.zero_le _⟩ dX7_rock_19 ?_
    have r1 := rk_r hI.1 (2 * a.toNat + b.toNat) x
    refine lv_istore (lv' := [(5, .int (iI (rkI τ (2 * a.toNat + b.toNat) x))), (4, .ref (ad 15 (2 * a.toNat + b.toNat))), (0, .ref (ad 0 0)), (1, .int (iI (a))), (2, .int (iI (b))), (3, .int (iI (x)))]) hx hb dX7_rock_22 hl (by decide) rfl (fun ls hl => ?_)
    refine lv_iload hx hb dX7_rock_24 (lv_at hl 0 rfl) ?_
    refine z_iconst hx hb dX7_rock_26 ?_
    refine z_icmp_ne (tgt := 34) hx hb (by omega) (by omega) dX7_rock_27 (by decide) (fun c2 => ?_) (fun c2 => ?_)
    · refine lv_aload_n hx hb dX7_rock_34 rfl (lv_at hl 2 rfl) ?_
      refine y_get (C := RX7) (T := TX7) (N := 11) (ref := "CoreShed") (ci := 7) hx hb hts hinX7 hown hK (cw0 hW) rfl 3 (by decide) (hts _ (by decide +kernel)) rfl (v := .ref (ad 4 0)) rfl dX7_rock_35 ?_
      refine lv_aload hx hb dX7_rock_38 (lv_at hl 1 rfl) ?_
      refine y_get (C := RX2) (T := TX2) (N := 3) (ref := "CoreShed$Log") (ci := 2) hx hb hts hinX2 hown hK (cw15 hW (i := 2 * a.toNat + b.toNat) (by omega)) rfl 1 (by decide) (hts _ (by decide +kernel)) rfl (v := .ref (ad 17 (2 * a.toNat + b.toNat))) rfl dX7_rock_40 ?_
      refine lv_iload hx hb dX7_rock_43 (lv_at hl 0 rfl) ?_
      refine y_iald (j := (rkI τ (2 * a.toNat + b.toNat) x).toNat) hx hb hK 0 (cw17 hW (i := 2 * a.toNat + b.toNat) (by omega)) rfl (by omega) (by omega) (by decide) dX7_rock_45 ?_
      have r3 : (0 : Int) ≤ τ 10 (20 * (2 * a.toNat + b.toNat) + ((rkI τ (2 * a.toNat + b.toNat) x).toNat)) ∧ τ 10 (20 * (2 * a.toNat + b.toNat) + ((rkI τ (2 * a.toNat + b.toNat) x).toNat)) ≤ 9 := hI.1 10 (20 * (2 * a.toNat + b.toNat) + ((rkI τ (2 * a.toNat + b.toNat) x).toNat))
      refine y_iald (j := (τ 10 (20 * (2 * a.toNat + b.toNat) + ((rkI τ (2 * a.toNat + b.toNat) x).toNat))).toNat) hx hb hK 0 (cw4 hW) rfl (by omega) (by omega) (by decide) dX7_rock_46 ?_
      have r4 : (0 : Int) ≤ τ 11 ((τ 10 (20 * (2 * a.toNat + b.toNat) + ((rkI τ (2 * a.toNat + b.toNat) x).toNat))).toNat) ∧ τ 11 ((τ 10 (20 * (2 * a.toNat + b.toNat) + ((rkI τ (2 * a.toNat + b.toNat) x).toNat))).toNat) ≤ 9 := hI.1 11 ((τ 10 (20 * (2 * a.toNat + b.toNat) + ((rkI τ (2 * a.toNat + b.toNat) x).toNat))).toNat)
      exact s_iret hx hb hr hlocks (by unfold spRock; rw [if_neg (by omega), if_neg c2]; rfl) dX7_rock_47
    · refine z_iconst hx hb dX7_rock_30 ?_
      refine lv_goto (tgt := 47) hx hb dX7_rock_31 (by decide) ?_
      exact s_iret hx hb hr hlocks (by unfold spRock; rw [if_neg (by omega), if_pos c2]) dX7_rock_47
  · refine lv_aload_n hx hb dX7_rock_0 rfl (lv_at hl 0 rfl) ?_
    refine lv_iload_n hx hb dX7_rock_1 rfl (lv_at hl 1 rfl) ?_
    refine lv_iload_n hx hb dX7_rock_2 rfl (lv_at hl 2 rfl) ?_
    refine c_callR (n := 2) (As := [.int (iI (a)), .int (iI (b))]) (rest := []) hx hb hml hts hown hK hNW hW (va_recv hK (cw0 hW) (ci := 7) (q0 := 0) rfl rfl) (c7_logNamed_none l D cT ad τ ρ hI.1 a (by omega) b (by omega) (by omega)) gX7_rock_X7_logNamed rfl rfl rfl (by decide +kernel) ⟨by decide, by decide⟩ rfl hl.1 rfl (Nat.le_of_ble_eq_true rfl) ⟨Nat.zero_le _, Nat.zero_le _⟩ dX7_rock_3 ?_
    refine lv_astoreN (lv' := [(4, .null), (0, .ref (ad 0 0)), (1, .int (iI (a))), (2, .int (iI (b))), (3, .int (iI (x)))]) hx hb dX7_rock_6 hl (by decide) rfl (fun ls hl => ?_)
    refine lv_aloadN hx hb dX7_rock_8 (lv_at hl 0 rfl) ?_
    refine lv_ifnonnullN hx hb dX7_rock_10 ?_
    refine z_bipush hx hb dX7_rock_13 (by decide) ?_
    exact s_iret hx hb hr hlocks (by unfold spRock; repeat (first | rw [if_pos (by first | assumption | omega)] | rw [if_neg (by first | assumption | omega | (intro hk; exact hk (by assumption)))])) dX7_rock_15
set_option maxHeartbeats 4000000 in
set_option maxRecDepth 100000 in
theorem c7_agree (l : Launch) (D : va_G) (cT : Nat → ClassId) (ad : Adr) (τ ρ : Tau) (hI : Inv τ) (a : Int) (h_a : I32 a)  : Met l yX7_agree wsX7_agree { frames := 2, cells := 0, slots := 0, locals := 44 } (cPc D cT ad τ ρ [.ref (ad 0 0), .int (iI (a))]) (rS (spAgree τ a)) 0 0 (NoA) := by
  refine c_start (by decide) rfl (Nat.le_of_ble_eq_true rfl) ?_
  intro p e s m below meth c hx hb hr hlocks hml hts hown hW hK hNW ls hl
  have hinX1 : ∀ w ∈ wsX10, w ∈ wsX7_agree := by decide +kernel
  have hinX2 : ∀ w ∈ wsX20, w ∈ wsX7_agree := by decide +kernel
  have hinX7 : ∀ w ∈ wsX70, w ∈ wsX7_agree := by decide +kernel
  have hl : lv_has ls 8 [(0, .ref (ad 0 0)), (1, .int (iI (a)))] := hl
  have hq0_0 : (0 : Int) ≤ τ 0 0 ∧ τ 0 0 ≤ 4 := hI.1 0 0
  by_cases hh : 0 ≤ a ∧ a < τ 0 0
  · refine lv_aload_n hx hb dX7_agree_0 rfl (lv_at hl 0 rfl) ?_
    refine lv_iload_n hx hb dX7_agree_1 rfl (lv_at hl 1 rfl) ?_
    refine c_callR (n := 1) (As := [.int (iI (a))]) (rest := []) hx hb hml hts hown hK hNW hW (va_recv hK (cw0 hW) (ci := 7) (q0 := 0) rfl rfl) (c7_holeNamed_some l D cT ad τ ρ hI.1 a.toNat a (by omega) (by omega)) gX7_agree_X7_holeNamed rfl rfl rfl (by decide +kernel) ⟨by decide, by decide⟩ rfl hl.1 rfl (Nat.le_of_ble_eq_true rfl) ⟨Nat.zero_le _, Nat.zero_le _⟩ dX7_agree_2 ?_
    refine lv_astore_n (lv' := [(2, .ref (ad 11 a.toNat)), (0, .ref (ad 0 0)), (1, .int (iI (a)))]) hx hb dX7_agree_5 rfl hl (by decide) rfl (fun ls hl => ?_)
    refine lv_aload_n hx hb dX7_agree_6 rfl (lv_at hl 0 rfl) ?_
    refine lv_ifnonnull (tgt := 13) hx hb dX7_agree_7 (by decide) ?_
    refine lv_aload_n hx hb dX7_agree_13 rfl (lv_at hl 0 rfl) ?_
    refine y_get (C := RX1) (T := TX1) (N := 8) (ref := "CoreShed$Hole") (ci := 1) hx hb hts hinX1 hown hK (cw11 hW (i := a.toNat) (by omega)) rfl 3 (by decide) (hts _ (by decide +kernel)) rfl (v := .ref (ad 15 (2 * a.toNat))) rfl dX7_agree_14 ?_
    refine lv_astore_n (lv' := [(3, .ref (ad 15 (2 * a.toNat))), (2, .ref (ad 11 a.toNat)), (0, .ref (ad 0 0)), (1, .int (iI (a)))]) hx hb dX7_agree_17 rfl hl (by decide) rfl (fun ls hl => ?_)
    refine lv_aload_n hx hb dX7_agree_18 rfl (lv_at hl 1 rfl) ?_
    refine y_get (C := RX1) (T := TX1) (N := 8) (ref := "CoreShed$Hole") (ci := 1) hx hb hts hinX1 hown hK (cw11 hW (i := a.toNat) (by omega)) rfl 4 (by decide) (hts _ (by decide +kernel)) rfl (v := .ref (ad 15 (2 * a.toNat + 1))) rfl dX7_agree_19 ?_
    refine lv_astore (lv' := [(4, .ref (ad 15 (2 * a.toNat + 1))), (3, .ref (ad 15 (2 * a.toNat))), (2, .ref (ad 11 a.toNat)), (0, .ref (ad 0 0)), (1, .int (iI (a)))]) hx hb dX7_agree_22 hl (by decide) rfl (fun ls hl => ?_)
    obtain ⟨N, hN⟩ : ∃ N : Nat, τ 8 (2 * a.toNat) = N := ⟨(τ 8 (2 * a.toNat)).toNat, by have : (0 : Int) ≤ τ 8 (2 * a.toNat) ∧ τ 8 (2 * a.toNat) ≤ 20 := hI.1 8 (2 * a.toNat); omega⟩
    have hN2 : (τ 8 (2 * a.toNat)).toNat = N := by omega
    have hN3 : N ≤ 20 := by have : (0 : Int) ≤ τ 8 (2 * a.toNat) ∧ τ 8 (2 * a.toNat) ≤ 20 := hI.1 8 (2 * a.toNat); omega
    obtain ⟨M, hM⟩ : ∃ N : Nat, τ 8 (2 * a.toNat + 1) = N := ⟨(τ 8 (2 * a.toNat + 1)).toNat, by have : (0 : Int) ≤ τ 8 (2 * a.toNat + 1) ∧ τ 8 (2 * a.toNat + 1) ≤ 20 := hI.1 8 (2 * a.toNat + 1); omega⟩
    have hM2 : (τ 8 (2 * a.toNat + 1)).toNat = M := by omega
    have hM3 : M ≤ 20 := by have : (0 : Int) ≤ τ 8 (2 * a.toNat + 1) ∧ τ 8 (2 * a.toNat + 1) ≤ 20 := hI.1 8 (2 * a.toNat + 1); omega
    refine z_iconst hx hb dX7_agree_24 ?_
    refine lv_istore (lv' := [(5, .int (iI (0))), (4, .ref (ad 15 (2 * a.toNat + 1))), (3, .ref (ad 15 (2 * a.toNat))), (2, .ref (ad 11 a.toNat)), (0, .ref (ad 0 0)), (1, .int (iI (a)))]) hx hb dX7_agree_25 hl (by decide) rfl (fun ls hl => ?_)
    refine z_iconst hx hb dX7_agree_27 ?_
    refine lv_istore (lv' := [(6, .int (iI (0))), (5, .int (iI (0))), (4, .ref (ad 15 (2 * a.toNat + 1))), (3, .ref (ad 15 (2 * a.toNat))), (2, .ref (ad 11 a.toNat)), (0, .ref (ad 0 0)), (1, .int (iI (a)))]) hx hb dX7_agree_28 hl (by decide) rfl (fun ls hl => ?_)
    have lp30 : ∀ (n30 i : Nat) (x5 x6 : Int), x5 = sm (fun i => sm (fun j => agU τ a.toNat i j) M) i → x6 = (i : Int) → i ≤ N → N + 1 ≤ i + n30 → ∀ ls : Array Slot, lv_has ls 8 [(5, .int (iI (x5))), (6, .int (iI (x6))), (4, .ref (ad 15 (2 * a.toNat + 1))), (3, .ref (ad 15 (2 * a.toNat))), (2, .ref (ad 11 a.toNat)), (0, .ref (ad 0 0)), (1, .int (iI (a)))] → W p l e { frames := 2, cells := 0, slots := 0, locals := 44 } s m [.ref (ad 0 0), .int (iI (a))].toArray below meth c s.heap [] 0 0 (MQ below (rS (spAgree τ a)) [.ref (ad 0 0), .int (iI (a))].toArray s 0 0 (NoA)) (F0 m 30 ls []) := by
      intro n30
      induction n30 with
      | zero => intro i x5 x6  ex5 ex6 hk1 hk2; exact absurd hk2 (by omega)
      | succ n30 ih30 =>
        intro i x5 x6  ex5 ex6 hk1 hk2  ls hl
        subst ex5
        subst ex6
        refine lv_iload hx hb dX7_agree_30 (lv_at hl 1 rfl) ?_
        refine lv_aload_n hx hb dX7_agree_32 rfl (lv_at hl 3 rfl) ?_
        refine y_get (C := RX2) (T := TX2) (N := 3) (ref := "CoreShed$Log") (ci := 2) hx hb hts hinX2 hown hK (cw15 hW (i := 2 * a.toNat) (by omega)) rfl 2 (by decide) (hts _ (by decide +kernel)) rfl (v := .int (iI (τ 8 (2 * a.toNat)))) rfl dX7_agree_33 ?_
        have r1 : (0 : Int) ≤ τ 8 (2 * a.toNat) ∧ τ 8 (2 * a.toNat) ≤ 20 := hI.1 8 (2 * a.toNat)
        refine z_icmp_ge (tgt := 128) hx hb (by omega) (by omega) dX7_agree_36 (by decide) (fun c2 => ?_) (fun c2 => ?_)
        · refine lv_iload hx hb dX7_agree_128 (lv_at hl 0 rfl) ?_
          exact s_iret hx hb hr hlocks (by unfold spAgree; rw [if_neg (by omega)]; unfold agO; rw [hN2, hM2, show N = i by omega]) dX7_agree_130
        · refine z_iconst hx hb dX7_agree_39 ?_
          refine lv_istore (lv' := [(7, .int (iI (0))), (5, .int (iI (sm (fun i => sm (fun j => agU τ a.toNat i j) M) i))), (6, .int (iI ((i : Int)))), (4, .ref (ad 15 (2 * a.toNat + 1))), (3, .ref (ad 15 (2 * a.toNat))), (2, .ref (ad 11 a.toNat)), (0, .ref (ad 0 0)), (1, .int (iI (a)))]) hx hb dX7_agree_40 hl (by decide) rfl (fun ls hl => ?_)
          have lp42 : ∀ (n42 j : Nat) (x5 x7 : Int), x5 = sm (fun i => sm (fun j => agU τ a.toNat i j) M) i + sm (fun j => agU τ a.toNat i j) j → x7 = (j : Int) → j ≤ M → M + 1 ≤ j + n42 → ∀ ls : Array Slot, lv_has ls 8 [(5, .int (iI (x5))), (7, .int (iI (x7))), (6, .int (iI ((i : Int)))), (4, .ref (ad 15 (2 * a.toNat + 1))), (3, .ref (ad 15 (2 * a.toNat))), (2, .ref (ad 11 a.toNat)), (0, .ref (ad 0 0)), (1, .int (iI (a)))] → W p l e { frames := 2, cells := 0, slots := 0, locals := 44 } s m [.ref (ad 0 0), .int (iI (a))].toArray below meth c s.heap [] 0 0 (MQ below (rS (spAgree τ a)) [.ref (ad 0 0), .int (iI (a))].toArray s 0 0 (NoA)) (F0 m 42 ls []) := by
            intro n42
            induction n42 with
            | zero => intro j x5 x7  ex5 ex7 hk1 hk2; exact absurd hk2 (by omega)
            | succ n42 ih42 =>
              intro j x5 x7  ex5 ex7 hk1 hk2  ls hl
              subst ex5
              subst ex7
              refine lv_iload hx hb dX7_agree_42 (lv_at hl 1 rfl) ?_
              refine lv_aload hx hb dX7_agree_44 (lv_at hl 3 rfl) ?_
              refine y_get (C := RX2) (T := TX2) (N := 3) (ref := "CoreShed$Log") (ci := 2) hx hb hts hinX2 hown hK (cw15 hW (i := 2 * a.toNat + 1) (by omega)) rfl 2 (by decide) (hts _ (by decide +kernel)) rfl (v := .int (iI (τ 8 (2 * a.toNat + 1)))) rfl dX7_agree_46 ?_
              have r3 : (0 : Int) ≤ τ 8 (2 * a.toNat + 1) ∧ τ 8 (2 * a.toNat + 1) ≤ 20 := hI.1 8 (2 * a.toNat + 1)
              refine z_icmp_ge (tgt := 122) hx hb (by omega) (by omega) dX7_agree_49 (by decide) (fun c4 => ?_) (fun c4 => ?_)
              · refine z_iinc (k := 2) (lv' := [(6, .int (iI ((i : Int) + 1))), (5, .int (iI (sm (fun i => sm (fun j => agU τ a.toNat i j) M) i + sm (fun j => agU τ a.toNat i j) j))), (7, .int (iI ((j : Int)))), (4, .ref (ad 15 (2 * a.toNat + 1))), (3, .ref (ad 15 (2 * a.toNat))), (2, .ref (ad 11 a.toNat)), (0, .ref (ad 0 0)), (1, .int (iI (a)))]) hx hb dX7_agree_122 hl rfl (by decide) rfl (fun ls hl => ?_)
                refine lv_goto (tgt := 30) hx hb dX7_agree_125 (by decide) ?_
                exact ih30 (i + 1) (sm (fun i => sm (fun j => agU τ a.toNat i j) M) i + sm (fun j => agU τ a.toNat i j) j) ((i : Int) + 1)  (by rw [show M = j by omega]; rfl) (by omega) (by omega) (by omega)  ls (lv_sub hl [1, 0, 3, 4, 5, 6, 7] rfl)
              · refine lv_aload_n hx hb dX7_agree_52 rfl (lv_at hl 6 rfl) ?_
                refine y_get (C := RX7) (T := TX7) (N := 11) (ref := "CoreShed") (ci := 7) hx hb hts hinX7 hown hK (cw0 hW) rfl 3 (by decide) (hts _ (by decide +kernel)) rfl (v := .ref (ad 4 0)) rfl dX7_agree_53 ?_
                refine lv_aload_n hx hb dX7_agree_56 rfl (lv_at hl 4 rfl) ?_
                refine y_get (C := RX2) (T := TX2) (N := 3) (ref := "CoreShed$Log") (ci := 2) hx hb hts hinX2 hown hK (cw15 hW (i := 2 * a.toNat) (by omega)) rfl 1 (by decide) (hts _ (by decide +kernel)) rfl (v := .ref (ad 17 (2 * a.toNat))) rfl dX7_agree_57 ?_
                refine lv_iload hx hb dX7_agree_60 (lv_at hl 2 rfl) ?_
                refine y_iald (j := i) hx hb hK 0 (cw17 hW (i := 2 * a.toNat) (by omega)) rfl (by omega) (by omega) (by decide) dX7_agree_62 ?_
                have r5 : (0 : Int) ≤ τ 10 (20 * (2 * a.toNat) + i) ∧ τ 10 (20 * (2 * a.toNat) + i) ≤ 9 := hI.1 10 (20 * (2 * a.toNat) + i)
                refine y_iald (j := (τ 10 (20 * (2 * a.toNat) + i)).toNat) hx hb hK 0 (cw4 hW) rfl (by omega) (by omega) (by decide) dX7_agree_63 ?_
                have r6 : (0 : Int) ≤ τ 11 ((τ 10 (20 * (2 * a.toNat) + i)).toNat) ∧ τ 11 ((τ 10 (20 * (2 * a.toNat) + i)).toNat) ≤ 9 := hI.1 11 ((τ 10 (20 * (2 * a.toNat) + i)).toNat)
                refine lv_aload_n hx hb dX7_agree_64 rfl (lv_at hl 6 rfl) ?_
                refine y_get (C := RX7) (T := TX7) (N := 11) (ref := "CoreShed") (ci := 7) hx hb hts hinX7 hown hK (cw0 hW) rfl 3 (by decide) (hts _ (by decide +kernel)) rfl (v := .ref (ad 4 0)) rfl dX7_agree_65 ?_
                refine lv_aload hx hb dX7_agree_68 (lv_at hl 3 rfl) ?_
                refine y_get (C := RX2) (T := TX2) (N := 3) (ref := "CoreShed$Log") (ci := 2) hx hb hts hinX2 hown hK (cw15 hW (i := 2 * a.toNat + 1) (by omega)) rfl 1 (by decide) (hts _ (by decide +kernel)) rfl (v := .ref (ad 17 (2 * a.toNat + 1))) rfl dX7_agree_70 ?_
                refine lv_iload hx hb dX7_agree_73 (lv_at hl 1 rfl) ?_
                refine y_iald (j := j) hx hb hK 0 (cw17 hW (i := 2 * a.toNat + 1) (by omega)) rfl (by omega) (by omega) (by decide) dX7_agree_75 ?_
                have r7 : (0 : Int) ≤ τ 10 (20 * (2 * a.toNat + 1) + j) ∧ τ 10 (20 * (2 * a.toNat + 1) + j) ≤ 9 := hI.1 10 (20 * (2 * a.toNat + 1) + j)
                refine y_iald (j := (τ 10 (20 * (2 * a.toNat + 1) + j)).toNat) hx hb hK 0 (cw4 hW) rfl (by omega) (by omega) (by decide) dX7_agree_76 ?_
                have r8 : (0 : Int) ≤ τ 11 ((τ 10 (20 * (2 * a.toNat + 1) + j)).toNat) ∧ τ 11 ((τ 10 (20 * (2 * a.toNat + 1) + j)).toNat) ≤ 9 := hI.1 11 ((τ 10 (20 * (2 * a.toNat + 1) + j)).toNat)
                refine z_icmp_ne (tgt := 116) hx hb (by omega) (by omega) dX7_agree_77 (by decide) (fun c9 => ?_) (fun c9 => ?_)
                · refine z_iinc (k := 1) (lv' := [(7, .int (iI ((j : Int) + 1))), (5, .int (iI (sm (fun i => sm (fun j => agU τ a.toNat i j) M) i + sm (fun j => agU τ a.toNat i j) j))), (6, .int (iI ((i : Int)))), (4, .ref (ad 15 (2 * a.toNat + 1))), (3, .ref (ad 15 (2 * a.toNat))), (2, .ref (ad 11 a.toNat)), (0, .ref (ad 0 0)), (1, .int (iI (a)))]) hx hb dX7_agree_116 hl rfl (by decide) rfl (fun ls hl => ?_)
                  refine lv_goto (tgt := 42) hx hb dX7_agree_119 (by decide) ?_
                  exact ih42 (j + 1) (sm (fun i => sm (fun j => agU τ a.toNat i j) M) i + sm (fun j => agU τ a.toNat i j) j) ((j : Int) + 1)  (by rw [sm_s, ← Int.add_assoc, ag_f (show ¬ cdO τ _ _ = cdO τ _ _ from c9), Int.add_zero]) (by omega) (by omega) (by omega)  ls (lv_sub hl [1, 0, 2, 3, 4, 5, 6, 7] rfl)
                · refine lv_iload hx hb dX7_agree_80 (lv_at hl 0 rfl) ?_
                  refine lv_aload_n hx hb dX7_agree_82 rfl (lv_at hl 4 rfl) ?_
                  refine lv_iload hx hb dX7_agree_83 (lv_at hl 2 rfl) ?_
                  refine c_call (n := 1) (As := [.int (iI ((i : Int)))]) (rest := [.int (iI (sm (fun i => sm (fun j => agU τ a.toNat i j) M) i + sm (fun j => agU τ a.toNat i j) j))]) hx hb hml hts hown hK hNW hW (va_recv hK (cw15 hW (i := 2 * a.toNat) (by omega)) (ci := 2) (q0 := 0) rfl rfl) (c2_top l D cT ad τ ρ hI.1 (2 * a.toNat) (by omega) i (i : Int) (by omega) (by omega)) gX7_agree_X2_top rfl rfl rfl (by decide +kernel) ⟨by decide, by decide⟩ rfl hl.1 rfl (Nat.le_of_ble_eq_true rfl) ⟨Nat.zero_le _, Nat.zero_le _⟩ dX7_agree_85 ?_
                  have r10 := fr_r hI.1 (2 * a.toNat) i
                  refine lv_aload_n hx hb dX7_agree_88 rfl (lv_at hl 4 rfl) ?_
                  refine y_get (C := RX2) (T := TX2) (N := 3) (ref := "CoreShed$Log") (ci := 2) hx hb hts hinX2 hown hK (cw15 hW (i := 2 * a.toNat) (by omega)) rfl 0 (by decide) (hts _ (by decide +kernel)) rfl (v := .ref (ad 16 (2 * a.toNat))) rfl dX7_agree_89 ?_
                  refine lv_iload hx hb dX7_agree_92 (lv_at hl 2 rfl) ?_
                  refine y_iald (j := i) hx hb hK 0 (cw16 hW (i := 2 * a.toNat) (by omega)) rfl (by omega) (by omega) (by decide) dX7_agree_94 ?_
                  have r11 : (0 : Int) ≤ τ 9 (20 * (2 * a.toNat) + i) ∧ τ 9 (20 * (2 * a.toNat) + i) ≤ 20000 := hI.1 9 (20 * (2 * a.toNat) + i)
                  refine lv_aload hx hb dX7_agree_95 (lv_at hl 3 rfl) ?_
                  refine lv_iload hx hb dX7_agree_97 (lv_at hl 1 rfl) ?_
                  refine c_call (n := 1) (As := [.int (iI ((j : Int)))]) (rest := [.int (iI (τ 9 (20 * (2 * a.toNat) + i))), .int (iI (frO τ (2 * a.toNat) i)), .int (iI (sm (fun i => sm (fun j => agU τ a.toNat i j) M) i + sm (fun j => agU τ a.toNat i j) j))]) hx hb hml hts hown hK hNW hW (va_recv hK (cw15 hW (i := 2 * a.toNat + 1) (by omega)) (ci := 2) (q0 := 0) rfl rfl) (c2_top l D cT ad τ ρ hI.1 (2 * a.toNat + 1) (by omega) j (j : Int) (by omega) (by omega)) gX7_agree_X2_top rfl rfl rfl (by decide +kernel) ⟨by decide, by decide⟩ rfl hl.1 rfl (Nat.le_of_ble_eq_true rfl) ⟨Nat.zero_le _, Nat.zero_le _⟩ dX7_agree_99 ?_
                  have r12 := fr_r hI.1 (2 * a.toNat + 1) j
                  refine lv_aload hx hb dX7_agree_102 (lv_at hl 3 rfl) ?_
                  refine y_get (C := RX2) (T := TX2) (N := 3) (ref := "CoreShed$Log") (ci := 2) hx hb hts hinX2 hown hK (cw15 hW (i := 2 * a.toNat + 1) (by omega)) rfl 0 (by decide) (hts _ (by decide +kernel)) rfl (v := .ref (ad 16 (2 * a.toNat + 1))) rfl dX7_agree_104 ?_
                  refine lv_iload hx hb dX7_agree_107 (lv_at hl 1 rfl) ?_
                  refine y_iald (j := j) hx hb hK 0 (cw16 hW (i := 2 * a.toNat + 1) (by omega)) rfl (by omega) (by omega) (by decide) dX7_agree_109 ?_
                  have r13 : (0 : Int) ≤ τ 9 (20 * (2 * a.toNat + 1) + j) ∧ τ 9 (20 * (2 * a.toNat + 1) + j) ≤ 20000 := hI.1 9 (20 * (2 * a.toNat + 1) + j)
                  refine s_call (n := 4) (As := [.int (iI (frO τ (2 * a.toNat) i)), .int (iI (τ 9 (20 * (2 * a.toNat) + i))), .int (iI (frO τ (2 * a.toNat + 1) j)), .int (iI (τ 9 (20 * (2 * a.toNat + 1) + j)))]) (rest := [.int (iI (sm (fun i => sm (fun j => agU τ a.toNat i j) M) i + sm (fun j => agU τ a.toNat i j) j))]) hx hb hml hts hown (c7_unitsInCommon l (frO τ (2 * a.toNat) i) (by omega) (τ 9 (20 * (2 * a.toNat) + i)) (by omega) (frO τ (2 * a.toNat + 1) j) (by omega) (τ 9 (20 * (2 * a.toNat + 1) + j)) (by omega) (by omega)) gX7_agree_X7_unitsInCommon rfl rfl rfl (by decide +kernel) ⟨by decide, by decide⟩ rfl hl.1 rfl (Nat.le_of_ble_eq_true rfl) ⟨Nat.zero_le _, Nat.zero_le _⟩ dX7_agree_110 ?_
                  refine z_iadd hx hb dX7_agree_113 ?_
                  refine lv_istore (lv' := [(5, .int (iI ((sm (fun i => sm (fun j => agU τ a.toNat i j) M) i + sm (fun j => agU τ a.toNat i j) j) + (cm (frO τ (2 * a.toNat) i) (τ 9 (20 * (2 * a.toNat) + i)) (frO τ (2 * a.toNat + 1) j) (τ 9 (20 * (2 * a.toNat + 1) + j)))))), (7, .int (iI ((j : Int)))), (6, .int (iI ((i : Int)))), (4, .ref (ad 15 (2 * a.toNat + 1))), (3, .ref (ad 15 (2 * a.toNat))), (2, .ref (ad 11 a.toNat)), (0, .ref (ad 0 0)), (1, .int (iI (a)))]) hx hb dX7_agree_114 hl (by decide) rfl (fun ls hl => ?_)
                  refine z_iinc (k := 1) (lv' := [(7, .int (iI ((j : Int) + 1))), (5, .int (iI ((sm (fun i => sm (fun j => agU τ a.toNat i j) M) i + sm (fun j => agU τ a.toNat i j) j) + (cm (frO τ (2 * a.toNat) i) (τ 9 (20 * (2 * a.toNat) + i)) (frO τ (2 * a.toNat + 1) j) (τ 9 (20 * (2 * a.toNat + 1) + j)))))), (6, .int (iI ((i : Int)))), (4, .ref (ad 15 (2 * a.toNat + 1))), (3, .ref (ad 15 (2 * a.toNat))), (2, .ref (ad 11 a.toNat)), (0, .ref (ad 0 0)), (1, .int (iI (a)))]) hx hb dX7_agree_116 hl rfl (by decide) rfl (fun ls hl => ?_)
                  refine lv_goto (tgt := 42) hx hb dX7_agree_119 (by decide) ?_
                  exact ih42 (j + 1) ((sm (fun i => sm (fun j => agU τ a.toNat i j) M) i + sm (fun j => agU τ a.toNat i j) j) + (cm (frO τ (2 * a.toNat) i) (τ 9 (20 * (2 * a.toNat) + i)) (frO τ (2 * a.toNat + 1) j) (τ 9 (20 * (2 * a.toNat + 1) + j)))) ((j : Int) + 1)  (by rw [sm_s, ← Int.add_assoc, ag_t (show cdO τ _ _ = cdO τ _ _ from c9)]) (by omega) (by omega) (by omega)  ls (lv_sub hl [1, 0, 2, 3, 4, 5, 6, 7] rfl)
          exact lp42 (M + 1) 0 (sm (fun i => sm (fun j => agU τ a.toNat i j) M) i) 0  (by simp [sm]) (by omega) (by omega) (by omega)  ls (lv_sub hl [1, 0, 2, 3, 4, 5, 6, 7] rfl)
    exact lp30 (N + 1) 0 0 0  rfl (by omega) (by omega) (by omega)  ls (lv_sub hl [1, 0, 2, 3, 4, 5, 6] rfl)
  · refine lv_aload_n hx hb dX7_agree_0 rfl (lv_at hl 0 rfl) ?_
    refine lv_iload_n hx hb dX7_agree_1 rfl (lv_at hl 1 rfl) ?_
    refine c_callR (n := 1) (As := [.int (iI (a))]) (rest := []) hx hb hml hts hown hK hNW hW (va_recv hK (cw0 hW) (ci := 7) (q0 := 0) rfl rfl) (c7_holeNamed_none l D cT ad τ ρ hI.1 a (by omega) (by omega)) gX7_agree_X7_holeNamed rfl rfl rfl (by decide +kernel) ⟨by decide, by decide⟩ rfl hl.1 rfl (Nat.le_of_ble_eq_true rfl) ⟨Nat.zero_le _, Nat.zero_le _⟩ dX7_agree_2 ?_
    refine lv_astore_nN (lv' := [(2, .null), (0, .ref (ad 0 0)), (1, .int (iI (a)))]) hx hb dX7_agree_5 rfl hl (by decide) rfl (fun ls hl => ?_)
    refine lv_aload_nN hx hb dX7_agree_6 rfl (lv_at hl 0 rfl) ?_
    refine lv_ifnonnullN hx hb dX7_agree_7 ?_
    refine z_bipush hx hb dX7_agree_10 (by decide) ?_
    exact s_iret hx hb hr hlocks (by unfold spAgree; repeat (first | rw [if_pos (by first | assumption | omega)] | rw [if_neg (by first | assumption | omega | (intro hk; exact hk (by assumption)))])) dX7_agree_12
set_option maxHeartbeats 4000000 in
set_option maxRecDepth 100000 in
theorem c7_left (l : Launch) (D : va_G) (cT : Nat → ClassId) (ad : Adr) (τ ρ : Tau) (hI : Inv τ) (a : Int) (h_a : I32 a)  : Met l yX7_left wsX7_left { frames := 1, cells := 0, slots := 0, locals := 21 } (cPc D cT ad τ ρ [.ref (ad 0 0), .int (iI (a))]) (rS (spLeft τ a)) 0 0 (NoA) := by
  refine c_start (by decide) rfl (Nat.le_of_ble_eq_true rfl) ?_
  intro p e s m below meth c hx hb hr hlocks hml hts hown hW hK hNW ls hl
  have hinX6 : ∀ w ∈ wsX60, w ∈ wsX7_left := by decide +kernel
  have hl : lv_has ls 3 [(0, .ref (ad 0 0)), (1, .int (iI (a)))] := hl
  have hq12_0 : (0 : Int) ≤ τ 12 0 ∧ τ 12 0 ≤ 30 := hI.1 12 0
  by_cases hh : 0 ≤ a ∧ a < τ 12 0
  · refine lv_aload_n hx hb dX7_left_0 rfl (lv_at hl 0 rfl) ?_
    refine lv_iload_n hx hb dX7_left_1 rfl (lv_at hl 1 rfl) ?_
    refine c_callR (n := 1) (As := [.int (iI (a))]) (rest := []) hx hb hml hts hown hK hNW hW (va_recv hK (cw0 hW) (ci := 7) (q0 := 0) rfl rfl) (c7_sampleNamed_some l D cT ad τ ρ hI.1 a.toNat a (by omega) (by omega)) gX7_left_X7_sampleNamed rfl rfl rfl (by decide +kernel) ⟨by decide, by decide⟩ rfl hl.1 rfl (Nat.le_of_ble_eq_true rfl) ⟨Nat.zero_le _, Nat.zero_le _⟩ dX7_left_2 ?_
    refine lv_astore_n (lv' := [(2, .ref (ad 18 a.toNat)), (0, .ref (ad 0 0)), (1, .int (iI (a)))]) hx hb dX7_left_5 rfl hl (by decide) rfl (fun ls hl => ?_)
    refine lv_aload_n hx hb dX7_left_6 rfl (lv_at hl 0 rfl) ?_
    refine lv_ifnonnull (tgt := 15) hx hb dX7_left_7 (by decide) ?_
    refine lv_aload_n hx hb dX7_left_15 rfl (lv_at hl 0 rfl) ?_
    refine y_get (C := RX6) (T := TX6) (N := 4) (ref := "CoreShed$Sample") (ci := 6) hx hb hts hinX6 hown hK (cw18 hW (i := a.toNat) (by omega)) rfl 3 (by decide) (hts _ (by decide +kernel)) rfl (v := .int (iI (τ 16 a.toNat))) rfl dX7_left_16 ?_
    have r1 : (0 : Int) ≤ τ 16 a.toNat ∧ τ 16 a.toNat ≤ 4 := hI.1 16 a.toNat
    exact s_iret hx hb hr hlocks (by unfold spLeft; repeat (first | rw [if_pos (by first | assumption | omega)] | rw [if_neg (by first | assumption | omega | (intro hk; exact hk (by assumption)))])) dX7_left_19
  · refine lv_aload_n hx hb dX7_left_0 rfl (lv_at hl 0 rfl) ?_
    refine lv_iload_n hx hb dX7_left_1 rfl (lv_at hl 1 rfl) ?_
    refine c_callR (n := 1) (As := [.int (iI (a))]) (rest := []) hx hb hml hts hown hK hNW hW (va_recv hK (cw0 hW) (ci := 7) (q0 := 0) rfl rfl) (c7_sampleNamed_none l D cT ad τ ρ hI.1 a (by omega) (by omega)) gX7_left_X7_sampleNamed rfl rfl rfl (by decide +kernel) ⟨by decide, by decide⟩ rfl hl.1 rfl (Nat.le_of_ble_eq_true rfl) ⟨Nat.zero_le _, Nat.zero_le _⟩ dX7_left_2 ?_
    refine lv_astore_nN (lv' := [(2, .null), (0, .ref (ad 0 0)), (1, .int (iI (a)))]) hx hb dX7_left_5 rfl hl (by decide) rfl (fun ls hl => ?_)
    refine lv_aload_nN hx hb dX7_left_6 rfl (lv_at hl 0 rfl) ?_
    refine lv_ifnonnullN hx hb dX7_left_7 ?_
    refine z_bipush hx hb dX7_left_10 (by decide) ?_
    refine lv_goto (tgt := 19) hx hb dX7_left_12 (by decide) ?_
    exact s_iret hx hb hr hlocks (by unfold spLeft; repeat (first | rw [if_pos (by first | assumption | omega)] | rw [if_neg (by first | assumption | omega | (intro hk; exact hk (by assumption)))])) dX7_left_19
set_option maxHeartbeats 4000000 in
set_option maxRecDepth 100000 in
theorem c7_sound (l : Launch) (D : va_G) (cT : Nat → ClassId) (ad : Adr) (τ ρ : Tau) (hI : Inv τ) (a : Int) (h_a : I32 a)  : Met l yX7_sound wsX7_sound { frames := 5, cells := 0, slots := 0, locals := 111 } (cPc D cT ad τ ρ [.ref (ad 0 0), .int (iI (a))]) (rS (spSound τ a)) 0 0 (NoA) := by
  refine c_start (by decide) rfl (Nat.le_of_ble_eq_true rfl) ?_
  intro p e s m below meth c hx hb hr hlocks hml hts hown hW hK hNW ls hl
  have hinX7 : ∀ w ∈ wsX70, w ∈ wsX7_sound := by decide +kernel
  have hl : lv_has ls 3 [(0, .ref (ad 0 0)), (1, .int (iI (a)))] := hl
  have hq18_0 : (0 : Int) ≤ τ 18 0 ∧ τ 18 0 ≤ 6 := hI.1 18 0
  by_cases hh : 0 ≤ a ∧ a < τ 18 0
  · refine lv_aload_n hx hb dX7_sound_0 rfl (lv_at hl 0 rfl) ?_
    refine lv_iload_n hx hb dX7_sound_1 rfl (lv_at hl 1 rfl) ?_
    refine c_callR (n := 1) (As := [.int (iI (a))]) (rest := []) hx hb hml hts hown hK hNW hW (va_recv hK (cw0 hW) (ci := 7) (q0 := 0) rfl rfl) (c7_batchNamed_some l D cT ad τ ρ hI.1 a.toNat a (by omega) (by omega)) gX7_sound_X7_batchNamed rfl rfl rfl (by decide +kernel) ⟨by decide, by decide⟩ rfl hl.1 rfl (Nat.le_of_ble_eq_true rfl) ⟨Nat.zero_le _, Nat.zero_le _⟩ dX7_sound_2 ?_
    refine lv_astore_n (lv' := [(2, .ref (ad 19 a.toNat)), (0, .ref (ad 0 0)), (1, .int (iI (a)))]) hx hb dX7_sound_5 rfl hl (by decide) rfl (fun ls hl => ?_)
    refine lv_aload_n hx hb dX7_sound_6 rfl (lv_at hl 0 rfl) ?_
    refine lv_ifnonnull (tgt := 13) hx hb dX7_sound_7 (by decide) ?_
    refine lv_aload_n hx hb dX7_sound_13 rfl (lv_at hl 0 rfl) ?_
    refine c_call (n := 0) (As := []) (rest := []) hx hb hml hts hown hK hNW hW (va_recv hK (cw19 hW (i := a.toNat) (by omega)) (ci := 0) (q0 := 0) rfl rfl) (c0_isComplete l D cT ad τ ρ hI.1 a.toNat (by omega)) gX7_sound_X0_isComplete rfl rfl rfl (by decide +kernel) ⟨by decide, by decide⟩ rfl hl.1 rfl (Nat.le_of_ble_eq_true rfl) ⟨Nat.zero_le _, Nat.zero_le _⟩ dX7_sound_14 ?_
    refine z_if_neB (tgt := 23) hx hb dX7_sound_17 (by decide) (fun c1 => ?_) (fun c1 => ?_)
    · refine lv_aload_n hx hb dX7_sound_23 rfl (lv_at hl 0 rfl) ?_
      refine lv_aload_n hx hb dX7_sound_24 rfl (lv_at hl 1 rfl) ?_
      refine y_get (C := RX7) (T := TX7) (N := 11) (ref := "CoreShed") (ci := 7) hx hb hts hinX7 hown hK (cw0 hW) rfl 9 (by decide) (hts _ (by decide +kernel)) rfl (v := .int (iI (τ 25 0))) rfl dX7_sound_25 ?_
      have r2 : (0 : Int) ≤ τ 25 0 ∧ τ 25 0 ≤ 1000 := hI.1 25 0
      refine lv_aload_n hx hb dX7_sound_28 rfl (lv_at hl 1 rfl) ?_
      refine y_get (C := RX7) (T := TX7) (N := 11) (ref := "CoreShed") (ci := 7) hx hb hts hinX7 hown hK (cw0 hW) rfl 10 (by decide) (hts _ (by decide +kernel)) rfl (v := .int (iI (τ 25 1))) rfl dX7_sound_29 ?_
      have r3 : (0 : Int) ≤ τ 25 1 ∧ τ 25 1 ≤ 1000 := hI.1 25 1
      refine c_call (n := 2) (As := [.int (iI (τ 25 0)), .int (iI (τ 25 1))]) (rest := []) hx hb hml hts hown hK hNW hW (va_recv hK (cw19 hW (i := a.toNat) (by omega)) (ci := 0) (q0 := 0) rfl rfl) (c0_isSound l D cT ad τ ρ hI.1 a.toNat (by omega) (hI.wh _)) gX7_sound_X0_isSound rfl rfl rfl (by decide +kernel) ⟨by decide, by decide⟩ rfl hl.1 rfl (Nat.le_of_ble_eq_true rfl) ⟨Nat.zero_le _, Nat.zero_le _⟩ dX7_sound_32 ?_
      refine z_if_eqB (tgt := 42) hx hb dX7_sound_35 (by decide) (fun c4 => ?_) (fun c4 => ?_)
      · refine z_iconst hx hb dX7_sound_42 ?_
        exact s_iret hx hb hr hlocks (by unfold spSound; repeat (first | rw [if_pos (by first | assumption | omega)] | rw [if_neg (by first | assumption | omega | (intro hk; exact hk (by assumption)))])) dX7_sound_43
      · refine z_iconst hx hb dX7_sound_38 ?_
        refine lv_goto (tgt := 43) hx hb dX7_sound_39 (by decide) ?_
        exact s_iret hx hb hr hlocks (by unfold spSound; repeat (first | rw [if_pos (by first | assumption | omega)] | rw [if_neg (by first | assumption | omega | (intro hk; exact hk (by assumption)))])) dX7_sound_43
    · refine z_bipush hx hb dX7_sound_20 (by decide) ?_
      exact s_iret hx hb hr hlocks (by unfold spSound; repeat (first | rw [if_pos (by first | assumption | omega)] | rw [if_neg (by first | assumption | omega | (intro hk; exact hk (by assumption)))])) dX7_sound_22
  · refine lv_aload_n hx hb dX7_sound_0 rfl (lv_at hl 0 rfl) ?_
    refine lv_iload_n hx hb dX7_sound_1 rfl (lv_at hl 1 rfl) ?_
    refine c_callR (n := 1) (As := [.int (iI (a))]) (rest := []) hx hb hml hts hown hK hNW hW (va_recv hK (cw0 hW) (ci := 7) (q0 := 0) rfl rfl) (c7_batchNamed_none l D cT ad τ ρ hI.1 a (by omega) (by omega)) gX7_sound_X7_batchNamed rfl rfl rfl (by decide +kernel) ⟨by decide, by decide⟩ rfl hl.1 rfl (Nat.le_of_ble_eq_true rfl) ⟨Nat.zero_le _, Nat.zero_le _⟩ dX7_sound_2 ?_
    refine lv_astore_nN (lv' := [(2, .null), (0, .ref (ad 0 0)), (1, .int (iI (a)))]) hx hb dX7_sound_5 rfl hl (by decide) rfl (fun ls hl => ?_)
    refine lv_aload_nN hx hb dX7_sound_6 rfl (lv_at hl 0 rfl) ?_
    refine lv_ifnonnullN hx hb dX7_sound_7 ?_
    refine z_bipush hx hb dX7_sound_10 (by decide) ?_
    exact s_iret hx hb hr hlocks (by unfold spSound; repeat (first | rw [if_pos (by first | assumption | omega)] | rw [if_neg (by first | assumption | omega | (intro hk; exact hk (by assumption)))])) dX7_sound_12
set_option maxHeartbeats 4000000 in
set_option maxRecDepth 100000 in
theorem c7_fault (l : Launch) (D : va_G) (cT : Nat → ClassId) (ad : Adr) (τ ρ : Tau) (hI : Inv τ) (a : Int) (h_a : I32 a)  : Met l yX7_fault wsX7_fault { frames := 4, cells := 0, slots := 0, locals := 89 } (cPc D cT ad τ ρ [.ref (ad 0 0), .int (iI (a))]) (rS (spFault τ a)) 0 0 (NoA) := by
  refine c_start (by decide) rfl (Nat.le_of_ble_eq_true rfl) ?_
  intro p e s m below meth c hx hb hr hlocks hml hts hown hW hK hNW ls hl
  have hinX7 : ∀ w ∈ wsX70, w ∈ wsX7_fault := by decide +kernel
  have hl : lv_has ls 3 [(0, .ref (ad 0 0)), (1, .int (iI (a)))] := hl
  have hq18_0 : (0 : Int) ≤ τ 18 0 ∧ τ 18 0 ≤ 6 := hI.1 18 0
  by_cases hh : 0 ≤ a ∧ a < τ 18 0
  · refine lv_aload_n hx hb dX7_fault_0 rfl (lv_at hl 0 rfl) ?_
    refine lv_iload_n hx hb dX7_fault_1 rfl (lv_at hl 1 rfl) ?_
    refine c_callR (n := 1) (As := [.int (iI (a))]) (rest := []) hx hb hml hts hown hK hNW hW (va_recv hK (cw0 hW) (ci := 7) (q0 := 0) rfl rfl) (c7_batchNamed_some l D cT ad τ ρ hI.1 a.toNat a (by omega) (by omega)) gX7_fault_X7_batchNamed rfl rfl rfl (by decide +kernel) ⟨by decide, by decide⟩ rfl hl.1 rfl (Nat.le_of_ble_eq_true rfl) ⟨Nat.zero_le _, Nat.zero_le _⟩ dX7_fault_2 ?_
    refine lv_astore_n (lv' := [(2, .ref (ad 19 a.toNat)), (0, .ref (ad 0 0)), (1, .int (iI (a)))]) hx hb dX7_fault_5 rfl hl (by decide) rfl (fun ls hl => ?_)
    refine lv_aload_n hx hb dX7_fault_6 rfl (lv_at hl 0 rfl) ?_
    refine lv_ifnonnull (tgt := 13) hx hb dX7_fault_7 (by decide) ?_
    refine lv_aload_n hx hb dX7_fault_13 rfl (lv_at hl 0 rfl) ?_
    refine c_call (n := 0) (As := []) (rest := []) hx hb hml hts hown hK hNW hW (va_recv hK (cw19 hW (i := a.toNat) (by omega)) (ci := 0) (q0 := 0) rfl rfl) (c0_isComplete l D cT ad τ ρ hI.1 a.toNat (by omega)) gX7_fault_X0_isComplete rfl rfl rfl (by decide +kernel) ⟨by decide, by decide⟩ rfl hl.1 rfl (Nat.le_of_ble_eq_true rfl) ⟨Nat.zero_le _, Nat.zero_le _⟩ dX7_fault_14 ?_
    refine z_if_eqB (tgt := 35) hx hb dX7_fault_17 (by decide) (fun c1 => ?_) (fun c1 => ?_)
    · refine z_bipush hx hb dX7_fault_35 (by decide) ?_
      exact s_iret hx hb hr hlocks (by unfold spFault; repeat (first | rw [if_pos (by first | assumption | omega)] | rw [if_neg (by first | assumption | omega | (intro hk; exact hk (by assumption)))])) dX7_fault_37
    · refine lv_aload_n hx hb dX7_fault_20 rfl (lv_at hl 0 rfl) ?_
      refine lv_aload_n hx hb dX7_fault_21 rfl (lv_at hl 1 rfl) ?_
      refine y_get (C := RX7) (T := TX7) (N := 11) (ref := "CoreShed") (ci := 7) hx hb hts hinX7 hown hK (cw0 hW) rfl 9 (by decide) (hts _ (by decide +kernel)) rfl (v := .int (iI (τ 25 0))) rfl dX7_fault_22 ?_
      have r2 : (0 : Int) ≤ τ 25 0 ∧ τ 25 0 ≤ 1000 := hI.1 25 0
      refine lv_aload_n hx hb dX7_fault_25 rfl (lv_at hl 1 rfl) ?_
      refine y_get (C := RX7) (T := TX7) (N := 11) (ref := "CoreShed") (ci := 7) hx hb hts hinX7 hown hK (cw0 hW) rfl 10 (by decide) (hts _ (by decide +kernel)) rfl (v := .int (iI (τ 25 1))) rfl dX7_fault_26 ?_
      have r3 : (0 : Int) ≤ τ 25 1 ∧ τ 25 1 ≤ 1000 := hI.1 25 1
      refine c_call (n := 2) (As := [.int (iI (τ 25 0)), .int (iI (τ 25 1))]) (rest := []) hx hb hml hts hown hK hNW hW (va_recv hK (cw19 hW (i := a.toNat) (by omega)) (ci := 0) (q0 := 0) rfl rfl) (c0_firstFault l D cT ad τ ρ hI.1 a.toNat (by omega) (hI.wh _)) gX7_fault_X0_firstFault rfl rfl rfl (by decide +kernel) ⟨by decide, by decide⟩ rfl hl.1 rfl (Nat.le_of_ble_eq_true rfl) ⟨Nat.zero_le _, Nat.zero_le _⟩ dX7_fault_29 ?_
      have r4 := ft_r hI.1 a.toNat
      refine lv_goto (tgt := 37) hx hb dX7_fault_32 (by decide) ?_
      exact s_iret hx hb hr hlocks (by unfold spFault; repeat (first | rw [if_pos (by first | assumption | omega)] | rw [if_neg (by first | assumption | omega | (intro hk; exact hk (by assumption)))])) dX7_fault_37
  · refine lv_aload_n hx hb dX7_fault_0 rfl (lv_at hl 0 rfl) ?_
    refine lv_iload_n hx hb dX7_fault_1 rfl (lv_at hl 1 rfl) ?_
    refine c_callR (n := 1) (As := [.int (iI (a))]) (rest := []) hx hb hml hts hown hK hNW hW (va_recv hK (cw0 hW) (ci := 7) (q0 := 0) rfl rfl) (c7_batchNamed_none l D cT ad τ ρ hI.1 a (by omega) (by omega)) gX7_fault_X7_batchNamed rfl rfl rfl (by decide +kernel) ⟨by decide, by decide⟩ rfl hl.1 rfl (Nat.le_of_ble_eq_true rfl) ⟨Nat.zero_le _, Nat.zero_le _⟩ dX7_fault_2 ?_
    refine lv_astore_nN (lv' := [(2, .null), (0, .ref (ad 0 0)), (1, .int (iI (a)))]) hx hb dX7_fault_5 rfl hl (by decide) rfl (fun ls hl => ?_)
    refine lv_aload_nN hx hb dX7_fault_6 rfl (lv_at hl 0 rfl) ?_
    refine lv_ifnonnullN hx hb dX7_fault_7 ?_
    refine z_bipush hx hb dX7_fault_10 (by decide) ?_
    exact s_iret hx hb hr hlocks (by unfold spFault; repeat (first | rw [if_pos (by first | assumption | omega)] | rw [if_neg (by first | assumption | omega | (intro hk; exact hk (by assumption)))])) dX7_fault_12
set_option maxHeartbeats 4000000 in
set_option maxRecDepth 100000 in
theorem c7_about (l : Launch) (D : va_G) (cT : Nat → ClassId) (ad : Adr) (τ ρ : Tau) (hI : Inv τ) (a : Int) (h_a : I32 a) (b : Int) (h_b : I32 b) (k : Int) (h_k : I32 k)  : Met l yX7_about wsX7_about { frames := 2, cells := 0, slots := 0, locals := 44 } (cPc D cT ad τ ρ [.ref (ad 0 0), .int (iI (a)), .int (iI (b)), .int (iI (k))]) (rS (spAbout τ a b k)) 0 0 (NoA) := by
  refine c_start (by decide) rfl (Nat.le_of_ble_eq_true rfl) ?_
  intro p e s m below meth c hx hb hr hlocks hml hts hown hW hK hNW ls hl
  have hl : lv_has ls 5 [(0, .ref (ad 0 0)), (1, .int (iI (a))), (2, .int (iI (b))), (3, .int (iI (k)))] := hl
  have hq18_0 : (0 : Int) ≤ τ 18 0 ∧ τ 18 0 ≤ 6 := hI.1 18 0
  have hq19_atoNat : (0 : Int) ≤ τ 19 a.toNat ∧ τ 19 a.toNat ≤ 16 := hI.1 19 a.toNat
  by_cases hh : (0 ≤ a ∧ a < τ 18 0) ∧ (0 ≤ b ∧ b < τ 19 a.toNat)
  · refine lv_aload_n hx hb dX7_about_0 rfl (lv_at hl 0 rfl) ?_
    refine lv_iload_n hx hb dX7_about_1 rfl (lv_at hl 1 rfl) ?_
    refine lv_iload_n hx hb dX7_about_2 rfl (lv_at hl 2 rfl) ?_
    refine c_callR (n := 2) (As := [.int (iI (a)), .int (iI (b))]) (rest := []) hx hb hml hts hown hK hNW hW (va_recv hK (cw0 hW) (ci := 7) (q0 := 0) rfl rfl) (c7_placeNamed_some l D cT ad τ ρ hI.1 a.toNat a (by omega) b.toNat b (by omega) (by omega) (by omega)) gX7_about_X7_placeNamed rfl rfl rfl (by decide +kernel) ⟨by decide, by decide⟩ rfl hl.1 rfl (Nat.le_of_ble_eq_true rfl) ⟨Nat.zero_le _, Nat.zero_le _⟩ dX7_about_3 ?_
    refine lv_astore (lv' := [(4, .ref (ad 21 (16 * a.toNat + b.toNat))), (0, .ref (ad 0 0)), (1, .int (iI (a))), (2, .int (iI (b))), (3, .int (iI (k)))]) hx hb dX7_about_6 hl (by decide) rfl (fun ls hl => ?_)
    refine lv_aload hx hb dX7_about_8 (lv_at hl 0 rfl) ?_
    refine lv_ifnonnull (tgt := 16) hx hb dX7_about_10 (by decide) ?_
    refine lv_iload_n hx hb dX7_about_16 rfl (lv_at hl 4 rfl) ?_
    refine z_iconst hx hb dX7_about_17 ?_
    refine z_iconst hx hb dX7_about_18 ?_
    refine s_call (n := 3) (As := [.int (iI (k)), .int (iI (0)), .int (iI (4))]) (rest := []) hx hb hml hts hown (c7_isWithin l k (by omega) 0 (by omega) 4 (by omega)) gX7_about_X7_isWithin rfl rfl rfl (by decide +kernel) ⟨by decide, by decide⟩ rfl hl.1 rfl (Nat.le_of_ble_eq_true rfl) ⟨Nat.zero_le _, Nat.zero_le _⟩ dX7_about_19 ?_
    refine z_if_eqB (tgt := 34) hx hb dX7_about_22 (by decide) (fun c1 => ?_) (fun c1 => ?_)
    · refine z_bipush hx hb dX7_about_34 (by decide) ?_
      exact s_iret hx hb hr hlocks (by unfold spAbout; rw [if_pos hh]; unfold abO; rw [if_neg (by omega), if_neg (by omega), if_neg (by omega), if_neg (by omega), if_neg (by omega)]) dX7_about_36
    · refine lv_aload hx hb dX7_about_25 (lv_at hl 0 rfl) ?_
      refine lv_iload_n hx hb dX7_about_27 rfl (lv_at hl 4 rfl) ?_
      refine c_call (n := 1) (As := [.int (iI (k))]) (rest := []) hx hb hml hts hown hK hNW hW (va_recv hK (cw21 hW (b := a.toNat) (q := b.toNat) (by omega) (by omega) (by omega)) (ci := 5) (q0 := 0) rfl rfl) (c5_told l D cT ad τ ρ hI.1 a.toNat (by omega) b.toNat (by omega) k (by omega) (by omega) (by omega) (hI.2.2.2.2.2 _)) gX7_about_X5_told rfl rfl rfl (by decide +kernel) ⟨by decide, by decide⟩ rfl hl.1 rfl (Nat.le_of_ble_eq_true rfl) ⟨Nat.zero_le _, Nat.zero_le _⟩ dX7_about_28 ?_
      have r2 := ab_r hI.1 (16 * a.toNat + b.toNat) k
      refine lv_goto (tgt := 36) hx hb dX7_about_31 (by decide) ?_
      exact s_iret hx hb hr hlocks (by unfold spAbout; rw [if_pos hh]) dX7_about_36
  · refine lv_aload_n hx hb dX7_about_0 rfl (lv_at hl 0 rfl) ?_
    refine lv_iload_n hx hb dX7_about_1 rfl (lv_at hl 1 rfl) ?_
    refine lv_iload_n hx hb dX7_about_2 rfl (lv_at hl 2 rfl) ?_
    refine c_callR (n := 2) (As := [.int (iI (a)), .int (iI (b))]) (rest := []) hx hb hml hts hown hK hNW hW (va_recv hK (cw0 hW) (ci := 7) (q0 := 0) rfl rfl) (c7_placeNamed_none l D cT ad τ ρ hI.1 a (by omega) b (by omega) (by omega)) gX7_about_X7_placeNamed rfl rfl rfl (by decide +kernel) ⟨by decide, by decide⟩ rfl hl.1 rfl (Nat.le_of_ble_eq_true rfl) ⟨Nat.zero_le _, Nat.zero_le _⟩ dX7_about_3 ?_
    refine lv_astoreN (lv' := [(4, .null), (0, .ref (ad 0 0)), (1, .int (iI (a))), (2, .int (iI (b))), (3, .int (iI (k)))]) hx hb dX7_about_6 hl (by decide) rfl (fun ls hl => ?_)
    refine lv_aloadN hx hb dX7_about_8 (lv_at hl 0 rfl) ?_
    refine lv_ifnonnullN hx hb dX7_about_10 ?_
    refine z_bipush hx hb dX7_about_13 (by decide) ?_
    exact s_iret hx hb hr hlocks (by unfold spAbout; rw [if_neg hh]) dX7_about_15
set_option maxHeartbeats 4000000 in
set_option maxRecDepth 100000 in
theorem c7_grade (l : Launch) (D : va_G) (cT : Nat → ClassId) (ad : Adr) (τ ρ : Tau) (hI : Inv τ) (a : Int) (h_a : I32 a) (u : Int) (h_u : I32 u)  : Met l yX7_grade wsX7_grade { frames := 6, cells := 0, slots := 0, locals := 134 } (cPc D cT ad τ ρ [.ref (ad 0 0), .int (iI (a)), .int (iI (u))]) (rS (spGrade τ a u)) 0 0 (NoA) := by
  refine c_start (by decide) rfl (Nat.le_of_ble_eq_true rfl) ?_
  intro p e s m below meth c hx hb hr hlocks hml hts hown hW hK hNW ls hl
  have hl : lv_has ls 4 [(0, .ref (ad 0 0)), (1, .int (iI (a))), (2, .int (iI (u)))] := hl
  have hq12_0 : (0 : Int) ≤ τ 12 0 ∧ τ 12 0 ≤ 30 := hI.1 12 0
  have hq18_0 : (0 : Int) ≤ τ 18 0 ∧ τ 18 0 ≤ 6 := hI.1 18 0
  have hgr := ga_r hI.1 a
  by_cases hh : 0 ≤ a ∧ a < τ 12 0
  · refine lv_aload_n hx hb dX7_grade_0 rfl (lv_at hl 0 rfl) ?_
    refine lv_iload_n hx hb dX7_grade_1 rfl (lv_at hl 1 rfl) ?_
    refine c_callR (n := 1) (As := [.int (iI (a))]) (rest := []) hx hb hml hts hown hK hNW hW (va_recv hK (cw0 hW) (ci := 7) (q0 := 0) rfl rfl) (c7_sampleNamed_some l D cT ad τ ρ hI.1 a.toNat a (by omega) (by omega)) gX7_grade_X7_sampleNamed rfl rfl rfl (by decide +kernel) ⟨by decide, by decide⟩ rfl hl.1 rfl (Nat.le_of_ble_eq_true rfl) ⟨Nat.zero_le _, Nat.zero_le _⟩ dX7_grade_2 ?_
    refine lv_ifnonnull (tgt := 11) hx hb dX7_grade_5 (by decide) ?_
    refine lv_iload_n hx hb dX7_grade_11 rfl (lv_at hl 2 rfl) ?_
    refine z_if_eq (tgt := 23) hx hb (by omega) dX7_grade_12 (by decide) (fun c1 => ?_) (fun c1 => ?_)
    · by_cases hg : gaO τ a = -1
      · refine lv_aload_n hx hb dX7_grade_23 rfl (lv_at hl 0 rfl) ?_
        refine lv_iload_n hx hb dX7_grade_24 rfl (lv_at hl 1 rfl) ?_
        refine c_callR (n := 1) (As := [.int (iI (a))]) (rest := []) hx hb hml hts hown hK hNW hW (va_recv hK (cw0 hW) (ci := 7) (q0 := 0) rfl rfl) (c7_gradingPlace_none l D cT ad τ ρ hI.1 a (by omega) (fun b => hI.wh b) (by omega)) gX7_grade_X7_gradingPlace rfl rfl rfl (by decide +kernel) ⟨by decide, by decide⟩ rfl hl.1 rfl (Nat.le_of_ble_eq_true rfl) ⟨Nat.zero_le _, Nat.zero_le _⟩ dX7_grade_25 ?_
        have hgi : ¬ gaO τ a = -1 → (0 ≤ gaI τ a ∧ gaI τ a < τ 18 0) ∧ (0 ≤ plO τ (gaI τ a).toNat a ∧ plO τ (gaI τ a).toNat a < τ 19 (gaI τ a).toNat) ∧ (gaO τ a).toNat = 16 * (gaI τ a).toNat + (plO τ (gaI τ a).toNat a).toNat := ga_in hI.1 a
        refine lv_astore_nN (lv' := [(3, .null), (0, .ref (ad 0 0)), (1, .int (iI (a))), (2, .int (iI (u)))]) hx hb dX7_grade_28 rfl hl (by decide) rfl (fun ls hl => ?_)
        refine lv_aload_nN hx hb dX7_grade_29 rfl (lv_at hl 0 rfl) ?_
        refine lv_ifnonnullN hx hb dX7_grade_30 ?_
        refine z_iconst hx hb dX7_grade_33 ?_
        refine lv_goto (tgt := 42) hx hb dX7_grade_34 (by decide) ?_
        exact s_iret hx hb hr hlocks (by unfold spGrade; rw [if_neg (by omega), if_neg (by omega), if_pos hg]) dX7_grade_42
      · refine lv_aload_n hx hb dX7_grade_23 rfl (lv_at hl 0 rfl) ?_
        refine lv_iload_n hx hb dX7_grade_24 rfl (lv_at hl 1 rfl) ?_
        refine c_callR (n := 1) (As := [.int (iI (a))]) (rest := []) hx hb hml hts hown hK hNW hW (va_recv hK (cw0 hW) (ci := 7) (q0 := 0) rfl rfl) (c7_gradingPlace_some l D cT ad τ ρ hI.1 a (by omega) (fun b => hI.wh b) (by omega)) gX7_grade_X7_gradingPlace rfl rfl rfl (by decide +kernel) ⟨by decide, by decide⟩ rfl hl.1 rfl (Nat.le_of_ble_eq_true rfl) ⟨Nat.zero_le _, Nat.zero_le _⟩ dX7_grade_25 ?_
        have hgi : ¬ gaO τ a = -1 → (0 ≤ gaI τ a ∧ gaI τ a < τ 18 0) ∧ (0 ≤ plO τ (gaI τ a).toNat a ∧ plO τ (gaI τ a).toNat a < τ 19 (gaI τ a).toNat) ∧ (gaO τ a).toNat = 16 * (gaI τ a).toNat + (plO τ (gaI τ a).toNat a).toNat := ga_in hI.1 a
        refine lv_astore_n (lv' := [(3, .ref (ad 21 (16 * (gaI τ a).toNat + (plO τ (gaI τ a).toNat a).toNat))), (0, .ref (ad 0 0)), (1, .int (iI (a))), (2, .int (iI (u)))]) hx hb dX7_grade_28 rfl hl (by decide) rfl (fun ls hl => ?_)
        refine lv_aload_n hx hb dX7_grade_29 rfl (lv_at hl 0 rfl) ?_
        refine lv_ifnonnull (tgt := 37) hx hb dX7_grade_30 (by decide) ?_
        refine lv_aload_n hx hb dX7_grade_37 rfl (lv_at hl 0 rfl) ?_
        refine lv_iload_n hx hb dX7_grade_38 rfl (lv_at hl 3 rfl) ?_
        refine c_call (n := 1) (As := [.int (iI (u))]) (rest := []) hx hb hml hts hown hK hNW hW (va_recv hK (cw21 hW (b := (gaI τ a).toNat) (q := (plO τ (gaI τ a).toNat a).toNat) (by have := hgi hg; have h19 : (0 : Int) ≤ τ 19 (gaI τ a).toNat ∧ τ 19 (gaI τ a).toNat ≤ 16 := hI.1 19 _; omega) (by have := hgi hg; have h19 : (0 : Int) ≤ τ 19 (gaI τ a).toNat ∧ τ 19 (gaI τ a).toNat ≤ 16 := hI.1 19 _; omega) (by have := hgi hg; have h19 : (0 : Int) ≤ τ 19 (gaI τ a).toNat ∧ τ 19 (gaI τ a).toNat ≤ 16 := hI.1 19 _; omega)) (ci := 5) (q0 := 0) rfl rfl) (c5_endOn l D cT ad τ ρ hI.1 ((gaI τ a).toNat) (by have := hgi hg; have h19 : (0 : Int) ≤ τ 19 (gaI τ a).toNat ∧ τ 19 (gaI τ a).toNat ≤ 16 := hI.1 19 _; omega) ((plO τ (gaI τ a).toNat a).toNat) (by have := hgi hg; have h19 : (0 : Int) ≤ τ 19 (gaI τ a).toNat ∧ τ 19 (gaI τ a).toNat ≤ 16 := hI.1 19 _; omega) u (by omega) (by have := hgi hg; have h19 : (0 : Int) ≤ τ 19 (gaI τ a).toNat ∧ τ 19 (gaI τ a).toNat ≤ 16 := hI.1 19 _; omega)) gX7_grade_X5_endOn rfl rfl rfl (by decide +kernel) ⟨by decide, by decide⟩ rfl hl.1 rfl (Nat.le_of_ble_eq_true rfl) ⟨Nat.zero_le _, Nat.zero_le _⟩ dX7_grade_39 ?_
        have r2 := lo_r hI.1 (16 * ((gaI τ a).toNat) + ((plO τ (gaI τ a).toNat a).toNat))
        have r3 := up_r hI.1 (16 * ((gaI τ a).toNat) + ((plO τ (gaI τ a).toNat a).toNat))
        exact s_iret hx hb hr hlocks (by unfold spGrade; rw [if_neg (show ¬ ¬ (0 ≤ a ∧ a < τ 12 0) by omega), if_neg (show ¬ ¬ (0 ≤ u ∧ u ≤ 1) by omega), if_neg hg, (hgi hg).2.2]) dX7_grade_42
    · refine lv_iload_n hx hb dX7_grade_15 rfl (lv_at hl 2 rfl) ?_
      refine z_iconst hx hb dX7_grade_16 ?_
      refine z_icmp_eq (tgt := 23) hx hb (by omega) (by omega) dX7_grade_17 (by decide) (fun c4 => ?_) (fun c4 => ?_)
      · by_cases hg : gaO τ a = -1
        · refine lv_aload_n hx hb dX7_grade_23 rfl (lv_at hl 0 rfl) ?_
          refine lv_iload_n hx hb dX7_grade_24 rfl (lv_at hl 1 rfl) ?_
          refine c_callR (n := 1) (As := [.int (iI (a))]) (rest := []) hx hb hml hts hown hK hNW hW (va_recv hK (cw0 hW) (ci := 7) (q0 := 0) rfl rfl) (c7_gradingPlace_none l D cT ad τ ρ hI.1 a (by omega) (fun b => hI.wh b) (by omega)) gX7_grade_X7_gradingPlace rfl rfl rfl (by decide +kernel) ⟨by decide, by decide⟩ rfl hl.1 rfl (Nat.le_of_ble_eq_true rfl) ⟨Nat.zero_le _, Nat.zero_le _⟩ dX7_grade_25 ?_
          have hgi : ¬ gaO τ a = -1 → (0 ≤ gaI τ a ∧ gaI τ a < τ 18 0) ∧ (0 ≤ plO τ (gaI τ a).toNat a ∧ plO τ (gaI τ a).toNat a < τ 19 (gaI τ a).toNat) ∧ (gaO τ a).toNat = 16 * (gaI τ a).toNat + (plO τ (gaI τ a).toNat a).toNat := ga_in hI.1 a
          refine lv_astore_nN (lv' := [(3, .null), (0, .ref (ad 0 0)), (1, .int (iI (a))), (2, .int (iI (u)))]) hx hb dX7_grade_28 rfl hl (by decide) rfl (fun ls hl => ?_)
          refine lv_aload_nN hx hb dX7_grade_29 rfl (lv_at hl 0 rfl) ?_
          refine lv_ifnonnullN hx hb dX7_grade_30 ?_
          refine z_iconst hx hb dX7_grade_33 ?_
          refine lv_goto (tgt := 42) hx hb dX7_grade_34 (by decide) ?_
          exact s_iret hx hb hr hlocks (by unfold spGrade; rw [if_neg (by omega), if_neg (by omega), if_pos hg]) dX7_grade_42
        · refine lv_aload_n hx hb dX7_grade_23 rfl (lv_at hl 0 rfl) ?_
          refine lv_iload_n hx hb dX7_grade_24 rfl (lv_at hl 1 rfl) ?_
          refine c_callR (n := 1) (As := [.int (iI (a))]) (rest := []) hx hb hml hts hown hK hNW hW (va_recv hK (cw0 hW) (ci := 7) (q0 := 0) rfl rfl) (c7_gradingPlace_some l D cT ad τ ρ hI.1 a (by omega) (fun b => hI.wh b) (by omega)) gX7_grade_X7_gradingPlace rfl rfl rfl (by decide +kernel) ⟨by decide, by decide⟩ rfl hl.1 rfl (Nat.le_of_ble_eq_true rfl) ⟨Nat.zero_le _, Nat.zero_le _⟩ dX7_grade_25 ?_
          have hgi : ¬ gaO τ a = -1 → (0 ≤ gaI τ a ∧ gaI τ a < τ 18 0) ∧ (0 ≤ plO τ (gaI τ a).toNat a ∧ plO τ (gaI τ a).toNat a < τ 19 (gaI τ a).toNat) ∧ (gaO τ a).toNat = 16 * (gaI τ a).toNat + (plO τ (gaI τ a).toNat a).toNat := ga_in hI.1 a
          refine lv_astore_n (lv' := [(3, .ref (ad 21 (16 * (gaI τ a).toNat + (plO τ (gaI τ a).toNat a).toNat))), (0, .ref (ad 0 0)), (1, .int (iI (a))), (2, .int (iI (u)))]) hx hb dX7_grade_28 rfl hl (by decide) rfl (fun ls hl => ?_)
          refine lv_aload_n hx hb dX7_grade_29 rfl (lv_at hl 0 rfl) ?_
          refine lv_ifnonnull (tgt := 37) hx hb dX7_grade_30 (by decide) ?_
          refine lv_aload_n hx hb dX7_grade_37 rfl (lv_at hl 0 rfl) ?_
          refine lv_iload_n hx hb dX7_grade_38 rfl (lv_at hl 3 rfl) ?_
          refine c_call (n := 1) (As := [.int (iI (u))]) (rest := []) hx hb hml hts hown hK hNW hW (va_recv hK (cw21 hW (b := (gaI τ a).toNat) (q := (plO τ (gaI τ a).toNat a).toNat) (by have := hgi hg; have h19 : (0 : Int) ≤ τ 19 (gaI τ a).toNat ∧ τ 19 (gaI τ a).toNat ≤ 16 := hI.1 19 _; omega) (by have := hgi hg; have h19 : (0 : Int) ≤ τ 19 (gaI τ a).toNat ∧ τ 19 (gaI τ a).toNat ≤ 16 := hI.1 19 _; omega) (by have := hgi hg; have h19 : (0 : Int) ≤ τ 19 (gaI τ a).toNat ∧ τ 19 (gaI τ a).toNat ≤ 16 := hI.1 19 _; omega)) (ci := 5) (q0 := 0) rfl rfl) (c5_endOn l D cT ad τ ρ hI.1 ((gaI τ a).toNat) (by have := hgi hg; have h19 : (0 : Int) ≤ τ 19 (gaI τ a).toNat ∧ τ 19 (gaI τ a).toNat ≤ 16 := hI.1 19 _; omega) ((plO τ (gaI τ a).toNat a).toNat) (by have := hgi hg; have h19 : (0 : Int) ≤ τ 19 (gaI τ a).toNat ∧ τ 19 (gaI τ a).toNat ≤ 16 := hI.1 19 _; omega) u (by omega) (by have := hgi hg; have h19 : (0 : Int) ≤ τ 19 (gaI τ a).toNat ∧ τ 19 (gaI τ a).toNat ≤ 16 := hI.1 19 _; omega)) gX7_grade_X5_endOn rfl rfl rfl (by decide +kernel) ⟨by decide, by decide⟩ rfl hl.1 rfl (Nat.le_of_ble_eq_true rfl) ⟨Nat.zero_le _, Nat.zero_le _⟩ dX7_grade_39 ?_
          have r5 := lo_r hI.1 (16 * ((gaI τ a).toNat) + ((plO τ (gaI τ a).toNat a).toNat))
          have r6 := up_r hI.1 (16 * ((gaI τ a).toNat) + ((plO τ (gaI τ a).toNat a).toNat))
          exact s_iret hx hb hr hlocks (by unfold spGrade; rw [if_neg (show ¬ ¬ (0 ≤ a ∧ a < τ 12 0) by omega), if_neg (show ¬ ¬ (0 ≤ u ∧ u ≤ 1) by omega), if_neg hg, (hgi hg).2.2]) dX7_grade_42
      · refine z_bipush hx hb dX7_grade_20 (by decide) ?_
        exact s_iret hx hb hr hlocks (by unfold spGrade; repeat (first | rw [if_pos (by first | assumption | omega)] | rw [if_neg (by first | assumption | omega | (intro hk; exact hk (by assumption)))])) dX7_grade_22
  · refine lv_aload_n hx hb dX7_grade_0 rfl (lv_at hl 0 rfl) ?_
    refine lv_iload_n hx hb dX7_grade_1 rfl (lv_at hl 1 rfl) ?_
    refine c_callR (n := 1) (As := [.int (iI (a))]) (rest := []) hx hb hml hts hown hK hNW hW (va_recv hK (cw0 hW) (ci := 7) (q0 := 0) rfl rfl) (c7_sampleNamed_none l D cT ad τ ρ hI.1 a (by omega) (by omega)) gX7_grade_X7_sampleNamed rfl rfl rfl (by decide +kernel) ⟨by decide, by decide⟩ rfl hl.1 rfl (Nat.le_of_ble_eq_true rfl) ⟨Nat.zero_le _, Nat.zero_le _⟩ dX7_grade_2 ?_
    refine lv_ifnonnullN hx hb dX7_grade_5 ?_
    refine z_bipush hx hb dX7_grade_8 (by decide) ?_
    exact s_iret hx hb hr hlocks (by unfold spGrade; repeat (first | rw [if_pos (by first | assumption | omega)] | rw [if_neg (by first | assumption | omega | (intro hk; exact hk (by assumption)))])) dX7_grade_10
set_option maxHeartbeats 4000000 in
set_option maxRecDepth 100000 in
theorem c7_count (l : Launch) (D : va_G) (cT : Nat → ClassId) (ad : Adr) (τ ρ : Tau) (hI : Inv τ) (a : Int) (h_a : I32 a)  : Met l yX7_count wsX7_count { frames := 6, cells := 0, slots := 0, locals := 133 } (cPc D cT ad τ ρ [.ref (ad 0 0), .int (iI (a))]) (rS (spCount τ a)) 0 0 (NoA) := by
  refine c_start (by decide) rfl (Nat.le_of_ble_eq_true rfl) ?_
  intro p e s m below meth c hx hb hr hlocks hml hts hown hW hK hNW ls hl
  have hinX7 : ∀ w ∈ wsX70, w ∈ wsX7_count := by decide +kernel
  have hl : lv_has ls 2 [(0, .ref (ad 0 0)), (1, .int (iI (a)))] := hl
  refine lv_iload_n hx hb dX7_count_0 rfl (lv_at hl 1 rfl) ?_
  rcases (show a = 0 ∨ a = 1 ∨ a = 2 ∨ a = 3 ∨ a = 4 ∨ (a < 0 ∨ 4 < a) by omega) with k1 | k1 | k1 | k1 | k1 | k1
  · refine z_tabIn (tgt := 36) (off := 35) (k := 0) hx hb (by omega) dX7_count_1 (by omega) (by omega) (by decide +kernel) (by decide) ?_
    refine lv_aload_n hx hb dX7_count_36 rfl (lv_at hl 0 rfl) ?_
    refine y_get (C := RX7) (T := TX7) (N := 11) (ref := "CoreShed") (ci := 7) hx hb hts hinX7 hown hK (cw0 hW) rfl 6 (by decide) (hts _ (by decide +kernel)) rfl (v := .int (iI (τ 0 0))) rfl dX7_count_37 ?_
    have r2 : (0 : Int) ≤ τ 0 0 ∧ τ 0 0 ≤ 4 := hI.1 0 0
    exact s_iret hx hb hr hlocks (by unfold spCount; repeat (first | rw [if_pos (by omega)] | rw [if_neg (by omega)])) dX7_count_40
  · refine z_tabIn (tgt := 41) (off := 40) (k := 1) hx hb (by omega) dX7_count_1 (by omega) (by omega) (by decide +kernel) (by decide) ?_
    refine lv_aload_n hx hb dX7_count_41 rfl (lv_at hl 0 rfl) ?_
    refine y_get (C := RX7) (T := TX7) (N := 11) (ref := "CoreShed") (ci := 7) hx hb hts hinX7 hown hK (cw0 hW) rfl 7 (by decide) (hts _ (by decide +kernel)) rfl (v := .int (iI (τ 12 0))) rfl dX7_count_42 ?_
    have r3 : (0 : Int) ≤ τ 12 0 ∧ τ 12 0 ≤ 30 := hI.1 12 0
    exact s_iret hx hb hr hlocks (by unfold spCount; repeat (first | rw [if_pos (by omega)] | rw [if_neg (by omega)])) dX7_count_45
  · refine z_tabIn (tgt := 46) (off := 45) (k := 2) hx hb (by omega) dX7_count_1 (by omega) (by omega) (by decide +kernel) (by decide) ?_
    refine lv_aload_n hx hb dX7_count_46 rfl (lv_at hl 0 rfl) ?_
    refine y_get (C := RX7) (T := TX7) (N := 11) (ref := "CoreShed") (ci := 7) hx hb hts hinX7 hown hK (cw0 hW) rfl 8 (by decide) (hts _ (by decide +kernel)) rfl (v := .int (iI (τ 18 0))) rfl dX7_count_47 ?_
    have r4 : (0 : Int) ≤ τ 18 0 ∧ τ 18 0 ≤ 6 := hI.1 18 0
    exact s_iret hx hb hr hlocks (by unfold spCount; repeat (first | rw [if_pos (by omega)] | rw [if_neg (by omega)])) dX7_count_50
  · refine z_tabIn (tgt := 51) (off := 50) (k := 3) hx hb (by omega) dX7_count_1 (by omega) (by omega) (by decide +kernel) (by decide) ?_
    refine lv_aload_n hx hb dX7_count_51 rfl (lv_at hl 0 rfl) ?_
    refine c_call (n := 0) (As := []) (rest := []) hx hb hml hts hown hK hNW hW (va_recv hK (cw0 hW) (ci := 7) (q0 := 0) rfl rfl) (c7_quartersTaken l D cT ad τ ρ hI.1) gX7_count_X7_quartersTaken rfl rfl rfl (by decide +kernel) ⟨by decide, by decide⟩ rfl hl.1 rfl (Nat.le_of_ble_eq_true rfl) ⟨Nat.zero_le _, Nat.zero_le _⟩ dX7_count_52 ?_
    exact s_iret hx hb hr hlocks (by unfold spCount; rw [if_neg (by omega), if_neg (by omega), if_neg (by omega), if_pos (by omega)]; exact hI.2.2.1.symm) dX7_count_55
  · refine z_tabIn (tgt := 56) (off := 55) (k := 4) hx hb (by omega) dX7_count_1 (by omega) (by omega) (by decide +kernel) (by decide) ?_
    refine lv_aload_n hx hb dX7_count_56 rfl (lv_at hl 0 rfl) ?_
    refine c_call (n := 0) (As := []) (rest := []) hx hb hml hts hown hK hNW hW (va_recv hK (cw0 hW) (ci := 7) (q0 := 0) rfl rfl) (c7_soundBatches l D cT ad τ ρ hI.1 (fun b => hI.wh b)) gX7_count_X7_soundBatches rfl rfl rfl (by decide +kernel) ⟨by decide, by decide⟩ rfl hl.1 rfl (Nat.le_of_ble_eq_true rfl) ⟨Nat.zero_le _, Nat.zero_le _⟩ dX7_count_57 ?_
    exact s_iret hx hb hr hlocks (by unfold spCount; repeat (first | rw [if_pos (by omega)] | rw [if_neg (by omega)])) dX7_count_60
  · refine z_tabOut (tgt := 61) hx hb (by omega) dX7_count_1 k1 (by decide) ?_
    refine z_bipush hx hb dX7_count_61 (by decide) ?_
    exact s_iret hx hb hr hlocks (by unfold spCount; repeat (first | rw [if_pos (by omega)] | rw [if_neg (by omega)])) dX7_count_63
set_option maxHeartbeats 4000000 in
set_option maxRecDepth 100000 in
theorem c7_digest (l : Launch) (D : va_G) (cT : Nat → ClassId) (ad : Adr) (τ ρ : Tau) (hI : Inv τ)   : Met l yX7_digest wsX7_digest { frames := 3, cells := 0, slots := 0, locals := 73 } (cPc D cT ad τ ρ [.ref (ad 0 0)]) (rL (spDig τ)) 0 0 (NoA) := by
  refine c_start (by decide) rfl (Nat.le_of_ble_eq_true rfl) ?_
  intro p e s m below meth c hx hb hr hlocks hml hts hown hW hK hNW ls hl
  have hinX7 : ∀ w ∈ wsX70, w ∈ wsX7_digest := by decide +kernel
  have hl : lv_has ls 4 [(0, .ref (ad 0 0))] := hl
  obtain ⟨NH, hNH⟩ : ∃ N : Nat, τ 0 0 = N := ⟨(τ 0 0).toNat, by have : (0 : Int) ≤ τ 0 0 ∧ τ 0 0 ≤ 4 := hI.1 0 0; omega⟩
  have hNH2 : (τ 0 0).toNat = NH := by omega
  have hNH3 : NH ≤ 4 := by have : (0 : Int) ≤ τ 0 0 ∧ τ 0 0 ≤ 4 := hI.1 0 0; omega
  obtain ⟨NS, hNS⟩ : ∃ N : Nat, τ 12 0 = N := ⟨(τ 12 0).toNat, by have : (0 : Int) ≤ τ 12 0 ∧ τ 12 0 ≤ 30 := hI.1 12 0; omega⟩
  have hNS2 : (τ 12 0).toNat = NS := by omega
  have hNS3 : NS ≤ 30 := by have : (0 : Int) ≤ τ 12 0 ∧ τ 12 0 ≤ 30 := hI.1 12 0; omega
  obtain ⟨NB, hNB⟩ : ∃ N : Nat, τ 18 0 = N := ⟨(τ 18 0).toNat, by have : (0 : Int) ≤ τ 18 0 ∧ τ 18 0 ≤ 6 := hI.1 18 0; omega⟩
  have hNB2 : (τ 18 0).toNat = NB := by omega
  have hNB3 : NB ≤ 6 := by have : (0 : Int) ≤ τ 18 0 ∧ τ 18 0 ≤ 6 := hI.1 18 0; omega
  refine z_ldc2 (n := 173) hx hb hown (hts (.constantLong RX7 258 (173)) (by decide +kernel)) (by decide) dX7_digest_0 ?_
  refine lv_lstore_n (lv' := [(1, .long (lL (173))), (0, .ref (ad 0 0))]) hx hb dX7_digest_3 rfl hl (by decide) rfl (fun ls hl => ?_)
  refine z_iconst hx hb dX7_digest_4 ?_
  refine lv_istore_n (lv' := [(3, .int (iI (0))), (1, .long (lL (173))), (0, .ref (ad 0 0))]) hx hb dX7_digest_5 rfl hl (by decide) rfl (fun ls hl => ?_)
  have lp6 : ∀ (n6 h : Nat) (x1 x3 : Int), x1 = fo (fun h d => dgHole τ h d) 173 h → x3 = (h : Int) → h ≤ NH → NH + 1 ≤ h + n6 → ∀ ls : Array Slot, lv_has ls 4 [(1, .long (lL (x1))), (3, .int (iI (x3))), (0, .ref (ad 0 0))] → W p l e { frames := 3, cells := 0, slots := 0, locals := 73 } s m [.ref (ad 0 0)].toArray below meth c s.heap [] 0 0 (MQ below (rL (spDig τ)) [.ref (ad 0 0)].toArray s 0 0 (NoA)) (F0 m 6 ls []) := by
    intro n6
    induction n6 with
    | zero => intro h x1 x3  ex1 ex3 hk1 hk2; exact absurd hk2 (by omega)
    | succ n6 ih6 =>
      intro h x1 x3  ex1 ex3 hk1 hk2  ls hl
      subst ex1
      subst ex3
      refine lv_iload_n hx hb dX7_digest_6 rfl (lv_at hl 1 rfl) ?_
      refine lv_aload_n hx hb dX7_digest_7 rfl (lv_at hl 2 rfl) ?_
      refine y_get (C := RX7) (T := TX7) (N := 11) (ref := "CoreShed") (ci := 7) hx hb hts hinX7 hown hK (cw0 hW) rfl 6 (by decide) (hts _ (by decide +kernel)) rfl (v := .int (iI (τ 0 0))) rfl dX7_digest_8 ?_
      have r1 : (0 : Int) ≤ τ 0 0 ∧ τ 0 0 ≤ 4 := hI.1 0 0
      refine z_icmp_ge (tgt := 31) hx hb (by omega) (by omega) dX7_digest_11 (by decide) (fun c2 => ?_) (fun c2 => ?_)
      · refine z_iconst hx hb dX7_digest_31 ?_
        refine lv_istore_n (lv' := [(3, .int (iI (0))), (1, .long (lL (fo (fun h d => dgHole τ h d) 173 h))), (0, .ref (ad 0 0))]) hx hb dX7_digest_32 rfl hl (by decide) rfl (fun ls hl => ?_)
        have lp33 : ∀ (n33 k : Nat) (x1 x3 : Int), x1 = fo (fun k d => 31 * d + τ 11 k) (fo (fun h d => dgHole τ h d) 173 NH) k → x3 = (k : Int) → k ≤ 10 → 10 + 1 ≤ k + n33 → ∀ ls : Array Slot, lv_has ls 4 [(1, .long (lL (x1))), (3, .int (iI (x3))), (0, .ref (ad 0 0))] → W p l e { frames := 3, cells := 0, slots := 0, locals := 73 } s m [.ref (ad 0 0)].toArray below meth c s.heap [] 0 0 (MQ below (rL (spDig τ)) [.ref (ad 0 0)].toArray s 0 0 (NoA)) (F0 m 33 ls []) := by
          intro n33
          induction n33 with
          | zero => intro k x1 x3  ex1 ex3 hk1 hk2; exact absurd hk2 (by omega)
          | succ n33 ih33 =>
            intro k x1 x3  ex1 ex3 hk1 hk2  ls hl
            subst ex1
            subst ex3
            refine lv_iload_n hx hb dX7_digest_33 rfl (lv_at hl 1 rfl) ?_
            refine z_bipush hx hb dX7_digest_34 (by decide) ?_
            refine z_icmp_ge (tgt := 57) hx hb (by omega) (by omega) dX7_digest_36 (by decide) (fun c3 => ?_) (fun c3 => ?_)
            · refine z_iconst hx hb dX7_digest_57 ?_
              refine lv_istore_n (lv' := [(3, .int (iI (0))), (1, .long (lL (fo (fun k d => 31 * d + τ 11 k) (fo (fun h d => dgHole τ h d) 173 NH) k))), (0, .ref (ad 0 0))]) hx hb dX7_digest_58 rfl hl (by decide) rfl (fun ls hl => ?_)
              have lp59 : ∀ (n59 i : Nat) (x1 x3 : Int), x1 = fo (fun k d => 31 * (31 * (31 * (31 * d + τ 13 k) + τ 14 k) + τ 15 k) + τ 16 k) (dgTab τ (fo (fun h d => dgHole τ h d) 173 NH)) i → x3 = (i : Int) → i ≤ NS → NS + 1 ≤ i + n59 → ∀ ls : Array Slot, lv_has ls 4 [(1, .long (lL (x1))), (3, .int (iI (x3))), (0, .ref (ad 0 0))] → W p l e { frames := 3, cells := 0, slots := 0, locals := 73 } s m [.ref (ad 0 0)].toArray below meth c s.heap [] 0 0 (MQ below (rL (spDig τ)) [.ref (ad 0 0)].toArray s 0 0 (NoA)) (F0 m 59 ls []) := by
                intro n59
                induction n59 with
                | zero => intro i x1 x3  ex1 ex3 hk1 hk2; exact absurd hk2 (by omega)
                | succ n59 ih59 =>
                  intro i x1 x3  ex1 ex3 hk1 hk2  ls hl
                  subst ex1
                  subst ex3
                  refine lv_iload_n hx hb dX7_digest_59 rfl (lv_at hl 1 rfl) ?_
                  refine lv_aload_n hx hb dX7_digest_60 rfl (lv_at hl 2 rfl) ?_
                  refine y_get (C := RX7) (T := TX7) (N := 11) (ref := "CoreShed") (ci := 7) hx hb hts hinX7 hown hK (cw0 hW) rfl 7 (by decide) (hts _ (by decide +kernel)) rfl (v := .int (iI (τ 12 0))) rfl dX7_digest_61 ?_
                  have r4 : (0 : Int) ≤ τ 12 0 ∧ τ 12 0 ≤ 30 := hI.1 12 0
                  refine z_icmp_ge (tgt := 84) hx hb (by omega) (by omega) dX7_digest_64 (by decide) (fun c5 => ?_) (fun c5 => ?_)
                  · refine z_iconst hx hb dX7_digest_84 ?_
                    refine lv_istore_n (lv' := [(3, .int (iI (0))), (1, .long (lL (fo (fun k d => 31 * (31 * (31 * (31 * d + τ 13 k) + τ 14 k) + τ 15 k) + τ 16 k) (dgTab τ (fo (fun h d => dgHole τ h d) 173 NH)) i))), (0, .ref (ad 0 0))]) hx hb dX7_digest_85 rfl hl (by decide) rfl (fun ls hl => ?_)
                    have lp86 : ∀ (n86 b : Nat) (x1 x3 : Int), x1 = fo (fun b d => dgBat τ b d) (dgSam τ (dgTab τ (fo (fun h d => dgHole τ h d) 173 NH))) b → x3 = (b : Int) → b ≤ NB → NB + 1 ≤ b + n86 → ∀ ls : Array Slot, lv_has ls 4 [(1, .long (lL (x1))), (3, .int (iI (x3))), (0, .ref (ad 0 0))] → W p l e { frames := 3, cells := 0, slots := 0, locals := 73 } s m [.ref (ad 0 0)].toArray below meth c s.heap [] 0 0 (MQ below (rL (spDig τ)) [.ref (ad 0 0)].toArray s 0 0 (NoA)) (F0 m 86 ls []) := by
                      intro n86
                      induction n86 with
                      | zero => intro b x1 x3  ex1 ex3 hk1 hk2; exact absurd hk2 (by omega)
                      | succ n86 ih86 =>
                        intro b x1 x3  ex1 ex3 hk1 hk2  ls hl
                        subst ex1
                        subst ex3
                        refine lv_iload_n hx hb dX7_digest_86 rfl (lv_at hl 1 rfl) ?_
                        refine lv_aload_n hx hb dX7_digest_87 rfl (lv_at hl 2 rfl) ?_
                        refine y_get (C := RX7) (T := TX7) (N := 11) (ref := "CoreShed") (ci := 7) hx hb hts hinX7 hown hK (cw0 hW) rfl 8 (by decide) (hts _ (by decide +kernel)) rfl (v := .int (iI (τ 18 0))) rfl dX7_digest_88 ?_
                        have r6 : (0 : Int) ≤ τ 18 0 ∧ τ 18 0 ≤ 6 := hI.1 18 0
                        refine z_icmp_ge (tgt := 111) hx hb (by omega) (by omega) dX7_digest_91 (by decide) (fun c7 => ?_) (fun c7 => ?_)
                        · have hq25_0 : (0 : Int) ≤ τ 25 0 ∧ τ 25 0 ≤ 1000 := hI.1 25 0
                          have hq25_1 : (0 : Int) ≤ τ 25 1 ∧ τ 25 1 ≤ 1000 := hI.1 25 1
                          refine lv_lload_n hx hb dX7_digest_111 rfl (lv_at hl 0 rfl) ?_
                          refine lv_aload_n hx hb dX7_digest_112 rfl (lv_at hl 2 rfl) ?_
                          refine y_get (C := RX7) (T := TX7) (N := 11) (ref := "CoreShed") (ci := 7) hx hb hts hinX7 hown hK (cw0 hW) rfl 9 (by decide) (hts _ (by decide +kernel)) rfl (v := .int (iI (τ 25 0))) rfl dX7_digest_113 ?_
                          have r8 : (0 : Int) ≤ τ 25 0 ∧ τ 25 0 ≤ 1000 := hI.1 25 0
                          refine z_i2l hx hb (by omega) dX7_digest_116 ?_
                          refine s_callL (n := 2) (As := [.long (lL (fo (fun b d => dgBat τ b d) (dgSam τ (dgTab τ (fo (fun h d => dgHole τ h d) 173 NH))) b)), .long (lL (τ 25 0))]) (rest := []) hx hb hml hts hown (c7_mixed l (fo (fun b d => dgBat τ b d) (dgSam τ (dgTab τ (fo (fun h d => dgHole τ h d) 173 NH))) b) (τ 25 0)) gX7_digest_X7_mixed rfl rfl rfl (by decide +kernel) ⟨by decide, by decide⟩ rfl hl.1 rfl (Nat.le_of_ble_eq_true rfl) ⟨Nat.zero_le _, Nat.zero_le _⟩ dX7_digest_117 ?_
                          refine lv_aload_n hx hb dX7_digest_120 rfl (lv_at hl 2 rfl) ?_
                          refine y_get (C := RX7) (T := TX7) (N := 11) (ref := "CoreShed") (ci := 7) hx hb hts hinX7 hown hK (cw0 hW) rfl 10 (by decide) (hts _ (by decide +kernel)) rfl (v := .int (iI (τ 25 1))) rfl dX7_digest_121 ?_
                          have r9 : (0 : Int) ≤ τ 25 1 ∧ τ 25 1 ≤ 1000 := hI.1 25 1
                          refine z_i2l hx hb (by omega) dX7_digest_124 ?_
                          refine s_callL (n := 2) (As := [.long (lL (31 * (fo (fun b d => dgBat τ b d) (dgSam τ (dgTab τ (fo (fun h d => dgHole τ h d) 173 NH))) b) + (τ 25 0))), .long (lL (τ 25 1))]) (rest := []) hx hb hml hts hown (c7_mixed l (31 * (fo (fun b d => dgBat τ b d) (dgSam τ (dgTab τ (fo (fun h d => dgHole τ h d) 173 NH))) b) + (τ 25 0)) (τ 25 1)) gX7_digest_X7_mixed rfl rfl rfl (by decide +kernel) ⟨by decide, by decide⟩ rfl hl.1 rfl (Nat.le_of_ble_eq_true rfl) ⟨Nat.zero_le _, Nat.zero_le _⟩ dX7_digest_125 ?_
                          exact s_lret hx hb hr hlocks (by unfold spDig; rw [hNH2, hNB2, show NB = b by omega]) dX7_digest_128
                        · refine lv_aload_n hx hb dX7_digest_94 rfl (lv_at hl 2 rfl) ?_
                          refine y_get (C := RX7) (T := TX7) (N := 11) (ref := "CoreShed") (ci := 7) hx hb hts hinX7 hown hK (cw0 hW) rfl 2 (by decide) (hts _ (by decide +kernel)) rfl (v := .ref (ad 3 0)) rfl dX7_digest_95 ?_
                          refine lv_iload_n hx hb dX7_digest_98 rfl (lv_at hl 1 rfl) ?_
                          refine y_aaldS (ty := .object "CoreShed$Batch") (j := b) (q := ad 19 b) hx hb hK 4 rfl (cw3 hW) rfl (by omega) (by omega) (by decide) (if_pos (by omega)) dX7_digest_99 ?_
                          refine lv_lload_n hx hb dX7_digest_100 rfl (lv_at hl 0 rfl) ?_
                          refine c_callL (n := 1) (As := [.long (lL (fo (fun b d => dgBat τ b d) (dgSam τ (dgTab τ (fo (fun h d => dgHole τ h d) 173 NH))) b))]) (rest := []) hx hb hml hts hown hK hNW hW (va_recv hK (cw19 hW (i := b) (by omega)) (ci := 0) (q0 := 0) rfl rfl) (c0_digestOnto l D cT ad τ ρ hI.1 b (by omega) (fo (fun b d => dgBat τ b d) (dgSam τ (dgTab τ (fo (fun h d => dgHole τ h d) 173 NH))) b) hI.2.2.2.2.2) gX7_digest_X0_digestOnto rfl rfl rfl (by decide +kernel) ⟨by decide, by decide⟩ rfl hl.1 rfl (Nat.le_of_ble_eq_true rfl) ⟨Nat.zero_le _, Nat.zero_le _⟩ dX7_digest_101 ?_
                          refine lv_lstore_n (lv' := [(1, .long (lL (dgBat τ b (fo (fun b d => dgBat τ b d) (dgSam τ (dgTab τ (fo (fun h d => dgHole τ h d) 173 NH))) b)))), (3, .int (iI ((b : Int)))), (0, .ref (ad 0 0))]) hx hb dX7_digest_104 rfl hl (by decide) rfl (fun ls hl => ?_)
                          refine z_iinc (k := 1) (lv' := [(3, .int (iI ((b : Int) + 1))), (1, .long (lL (dgBat τ b (fo (fun b d => dgBat τ b d) (dgSam τ (dgTab τ (fo (fun h d => dgHole τ h d) 173 NH))) b)))), (0, .ref (ad 0 0))]) hx hb dX7_digest_105 hl rfl (by decide) rfl (fun ls hl => ?_)
                          refine lv_goto (tgt := 86) hx hb dX7_digest_108 (by decide) ?_
                          exact ih86 (b + 1) (dgBat τ b (fo (fun b d => dgBat τ b d) (dgSam τ (dgTab τ (fo (fun h d => dgHole τ h d) 173 NH))) b)) ((b : Int) + 1)  rfl (by omega) (by omega) (by omega)  ls (lv_sub hl [1, 0, 2] rfl)
                    exact lp86 (NB + 1) 0 (fo (fun k d => 31 * (31 * (31 * (31 * d + τ 13 k) + τ 14 k) + τ 15 k) + τ 16 k) (dgTab τ (fo (fun h d => dgHole τ h d) 173 NH)) i) 0  (by unfold dgSam; rw [hNS2, show NS = i by omega]; rfl) (by omega) (by omega) (by omega)  ls (lv_sub hl [1, 0, 2] rfl)
                  · refine lv_aload_n hx hb dX7_digest_67 rfl (lv_at hl 2 rfl) ?_
                    refine y_get (C := RX7) (T := TX7) (N := 11) (ref := "CoreShed") (ci := 7) hx hb hts hinX7 hown hK (cw0 hW) rfl 1 (by decide) (hts _ (by decide +kernel)) rfl (v := .ref (ad 2 0)) rfl dX7_digest_68 ?_
                    refine lv_iload_n hx hb dX7_digest_71 rfl (lv_at hl 1 rfl) ?_
                    refine y_aaldS (ty := .object "CoreShed$Sample") (j := i) (q := ad 18 i) hx hb hK 3 rfl (cw2 hW) rfl (by omega) (by omega) (by decide) (if_pos (by omega)) dX7_digest_72 ?_
                    refine lv_lload_n hx hb dX7_digest_73 rfl (lv_at hl 0 rfl) ?_
                    refine c_callL (n := 1) (As := [.long (lL (fo (fun k d => 31 * (31 * (31 * (31 * d + τ 13 k) + τ 14 k) + τ 15 k) + τ 16 k) (dgTab τ (fo (fun h d => dgHole τ h d) 173 NH)) i))]) (rest := []) hx hb hml hts hown hK hNW hW (va_recv hK (cw18 hW (i := i) (by omega)) (ci := 6) (q0 := 0) rfl rfl) (c6_digestOnto l D cT ad τ ρ hI.1 i (by omega) (fo (fun k d => 31 * (31 * (31 * (31 * d + τ 13 k) + τ 14 k) + τ 15 k) + τ 16 k) (dgTab τ (fo (fun h d => dgHole τ h d) 173 NH)) i)) gX7_digest_X6_digestOnto rfl rfl rfl (by decide +kernel) ⟨by decide, by decide⟩ rfl hl.1 rfl (Nat.le_of_ble_eq_true rfl) ⟨Nat.zero_le _, Nat.zero_le _⟩ dX7_digest_74 ?_
                    refine lv_lstore_n (lv' := [(1, .long (lL (31 * (31 * (31 * (31 * (fo (fun k d => 31 * (31 * (31 * (31 * d + τ 13 k) + τ 14 k) + τ 15 k) + τ 16 k) (dgTab τ (fo (fun h d => dgHole τ h d) 173 NH)) i) + τ 13 i) + τ 14 i) + τ 15 i) + τ 16 i))), (3, .int (iI ((i : Int)))), (0, .ref (ad 0 0))]) hx hb dX7_digest_77 rfl hl (by decide) rfl (fun ls hl => ?_)
                    refine z_iinc (k := 1) (lv' := [(3, .int (iI ((i : Int) + 1))), (1, .long (lL (31 * (31 * (31 * (31 * (fo (fun k d => 31 * (31 * (31 * (31 * d + τ 13 k) + τ 14 k) + τ 15 k) + τ 16 k) (dgTab τ (fo (fun h d => dgHole τ h d) 173 NH)) i) + τ 13 i) + τ 14 i) + τ 15 i) + τ 16 i))), (0, .ref (ad 0 0))]) hx hb dX7_digest_78 hl rfl (by decide) rfl (fun ls hl => ?_)
                    refine lv_goto (tgt := 59) hx hb dX7_digest_81 (by decide) ?_
                    exact ih59 (i + 1) (31 * (31 * (31 * (31 * (fo (fun k d => 31 * (31 * (31 * (31 * d + τ 13 k) + τ 14 k) + τ 15 k) + τ 16 k) (dgTab τ (fo (fun h d => dgHole τ h d) 173 NH)) i) + τ 13 i) + τ 14 i) + τ 15 i) + τ 16 i) ((i : Int) + 1)  rfl (by omega) (by omega) (by omega)  ls (lv_sub hl [1, 0, 2] rfl)
              exact lp59 (NS + 1) 0 (fo (fun k d => 31 * d + τ 11 k) (fo (fun h d => dgHole τ h d) 173 NH) k) 0  (by unfold dgTab; rw [show k = 10 by omega]; rfl) (by omega) (by omega) (by omega)  ls (lv_sub hl [1, 0, 2] rfl)
            · refine lv_lload_n hx hb dX7_digest_39 rfl (lv_at hl 0 rfl) ?_
              refine lv_aload_n hx hb dX7_digest_40 rfl (lv_at hl 2 rfl) ?_
              refine y_get (C := RX7) (T := TX7) (N := 11) (ref := "CoreShed") (ci := 7) hx hb hts hinX7 hown hK (cw0 hW) rfl 3 (by decide) (hts _ (by decide +kernel)) rfl (v := .ref (ad 4 0)) rfl dX7_digest_41 ?_
              refine lv_iload_n hx hb dX7_digest_44 rfl (lv_at hl 1 rfl) ?_
              refine y_iald (j := k) hx hb hK 0 (cw4 hW) rfl (by omega) (by omega) (by decide) dX7_digest_45 ?_
              have r10 : (0 : Int) ≤ τ 11 k ∧ τ 11 k ≤ 9 := hI.1 11 k
              refine z_i2l hx hb (by omega) dX7_digest_46 ?_
              refine s_callL (n := 2) (As := [.long (lL (fo (fun k d => 31 * d + τ 11 k) (fo (fun h d => dgHole τ h d) 173 NH) k)), .long (lL (τ 11 k))]) (rest := []) hx hb hml hts hown (c7_mixed l (fo (fun k d => 31 * d + τ 11 k) (fo (fun h d => dgHole τ h d) 173 NH) k) (τ 11 k)) gX7_digest_X7_mixed rfl rfl rfl (by decide +kernel) ⟨by decide, by decide⟩ rfl hl.1 rfl (Nat.le_of_ble_eq_true rfl) ⟨Nat.zero_le _, Nat.zero_le _⟩ dX7_digest_47 ?_
              refine lv_lstore_n (lv' := [(1, .long (lL (31 * (fo (fun k d => 31 * d + τ 11 k) (fo (fun h d => dgHole τ h d) 173 NH) k) + (τ 11 k)))), (3, .int (iI ((k : Int)))), (0, .ref (ad 0 0))]) hx hb dX7_digest_50 rfl hl (by decide) rfl (fun ls hl => ?_)
              refine z_iinc (k := 1) (lv' := [(3, .int (iI ((k : Int) + 1))), (1, .long (lL (31 * (fo (fun k d => 31 * d + τ 11 k) (fo (fun h d => dgHole τ h d) 173 NH) k) + (τ 11 k)))), (0, .ref (ad 0 0))]) hx hb dX7_digest_51 hl rfl (by decide) rfl (fun ls hl => ?_)
              refine lv_goto (tgt := 33) hx hb dX7_digest_54 (by decide) ?_
              exact ih33 (k + 1) (31 * (fo (fun k d => 31 * d + τ 11 k) (fo (fun h d => dgHole τ h d) 173 NH) k) + (τ 11 k)) ((k : Int) + 1)  rfl (by omega) (by omega) (by omega)  ls (lv_sub hl [1, 0, 2] rfl)
        exact lp33 (10 + 1) 0 (fo (fun h d => dgHole τ h d) 173 h) 0  (by rw [show NH = h by omega]; rfl) (by omega) (by omega) (by omega)  ls (lv_sub hl [1, 0, 2] rfl)
      · refine lv_aload_n hx hb dX7_digest_14 rfl (lv_at hl 2 rfl) ?_
        refine y_get (C := RX7) (T := TX7) (N := 11) (ref := "CoreShed") (ci := 7) hx hb hts hinX7 hown hK (cw0 hW) rfl 0 (by decide) (hts _ (by decide +kernel)) rfl (v := .ref (ad 1 0)) rfl dX7_digest_15 ?_
        refine lv_iload_n hx hb dX7_digest_18 rfl (lv_at hl 1 rfl) ?_
        refine y_aaldS (ty := .object "CoreShed$Hole") (j := h) (q := ad 11 h) hx hb hK 2 rfl (cw1 hW) rfl (by omega) (by omega) (by decide) (if_pos (by omega)) dX7_digest_19 ?_
        refine lv_lload_n hx hb dX7_digest_20 rfl (lv_at hl 0 rfl) ?_
        refine c_callL (n := 1) (As := [.long (lL (fo (fun h d => dgHole τ h d) 173 h))]) (rest := []) hx hb hml hts hown hK hNW hW (va_recv hK (cw11 hW (i := h) (by omega)) (ci := 1) (q0 := 0) rfl rfl) (c1_digestOnto l D cT ad τ ρ hI.1 h (by omega) (fo (fun h d => dgHole τ h d) 173 h)) gX7_digest_X1_digestOnto rfl rfl rfl (by decide +kernel) ⟨by decide, by decide⟩ rfl hl.1 rfl (Nat.le_of_ble_eq_true rfl) ⟨Nat.zero_le _, Nat.zero_le _⟩ dX7_digest_21 ?_
        refine lv_lstore_n (lv' := [(1, .long (lL (dgHole τ h (fo (fun h d => dgHole τ h d) 173 h)))), (3, .int (iI ((h : Int)))), (0, .ref (ad 0 0))]) hx hb dX7_digest_24 rfl hl (by decide) rfl (fun ls hl => ?_)
        refine z_iinc (k := 1) (lv' := [(3, .int (iI ((h : Int) + 1))), (1, .long (lL (dgHole τ h (fo (fun h d => dgHole τ h d) 173 h)))), (0, .ref (ad 0 0))]) hx hb dX7_digest_25 hl rfl (by decide) rfl (fun ls hl => ?_)
        refine lv_goto (tgt := 6) hx hb dX7_digest_28 (by decide) ?_
        exact ih6 (h + 1) (dgHole τ h (fo (fun h d => dgHole τ h d) 173 h)) ((h : Int) + 1)  rfl (by omega) (by omega) (by omega)  ls (lv_sub hl [1, 0, 2] rfl)
  exact lp6 (NH + 1) 0 173 0  rfl (by omega) (by omega) (by omega)  ls (lv_sub hl [1, 0, 2] rfl)
set_option maxHeartbeats 4000000 in
set_option maxRecDepth 100000 in
theorem c7_composite (l : Launch) (D : va_G) (cT : Nat → ClassId) (ad : Adr) (τ ρ : Tau) (hI : Inv τ) (x : Int) (h_x : I32 x) (a : Int) (h_a : I32 a) (b : Int) (h_b : I32 b) (t : Int) (h_t : I32 t) (u : Int) (h_u : I32 u)  : Met l yX7_composite wsX7_composite { frames := 6, cells := 0, slots := 0, locals := 134 } (cPc D cT ad τ ρ [.ref (ad 0 0), .int (iI (x)), .int (iI (a)), .int (iI (b)), .int (iI (t)), .int (iI (u))]) (rL (spComp τ x a b t u)) 0 0 (NoA) := by
  refine c_start (by decide) rfl (Nat.le_of_ble_eq_true rfl) ?_
  intro p e s m below meth c hx hb hr hlocks hml hts hown hW hK hNW ls hl
  have hinX7 : ∀ w ∈ wsX70, w ∈ wsX7_composite := by decide +kernel
  have hl : lv_has ls 12 [(0, .ref (ad 0 0)), (1, .int (iI (x))), (2, .int (iI (a))), (3, .int (iI (b))), (4, .int (iI (t))), (5, .int (iI (u)))] := hl
  have hq0_0 : (0 : Int) ≤ τ 0 0 ∧ τ 0 0 ≤ 4 := hI.1 0 0
  have hq18_0 : (0 : Int) ≤ τ 18 0 ∧ τ 18 0 ≤ 6 := hI.1 18 0
  have hen := hI.2.1 x.toNat
  have hen2 := hI.en x.toNat
  by_cases hh : 0 ≤ x ∧ x < τ 0 0
  · refine lv_aload_n hx hb dX7_composite_0 rfl (lv_at hl 0 rfl) ?_
    refine lv_iload_n hx hb dX7_composite_1 rfl (lv_at hl 1 rfl) ?_
    refine c_callR (n := 1) (As := [.int (iI (x))]) (rest := []) hx hb hml hts hown hK hNW hW (va_recv hK (cw0 hW) (ci := 7) (q0 := 0) rfl rfl) (c7_holeNamed_some l D cT ad τ ρ hI.1 x.toNat x (by omega) (by omega)) gX7_composite_X7_holeNamed rfl rfl rfl (by decide +kernel) ⟨by decide, by decide⟩ rfl hl.1 rfl (Nat.le_of_ble_eq_true rfl) ⟨Nat.zero_le _, Nat.zero_le _⟩ dX7_composite_2 ?_
    refine lv_astore (lv' := [(6, .ref (ad 11 x.toNat)), (0, .ref (ad 0 0)), (1, .int (iI (x))), (2, .int (iI (a))), (3, .int (iI (b))), (4, .int (iI (t))), (5, .int (iI (u)))]) hx hb dX7_composite_5 hl (by decide) rfl (fun ls hl => ?_)
    refine lv_aload hx hb dX7_composite_7 (lv_at hl 0 rfl) ?_
    refine lv_ifnonnull (tgt := 16) hx hb dX7_composite_9 (by decide) ?_
    refine lv_aload hx hb dX7_composite_16 (lv_at hl 0 rfl) ?_
    refine lv_iload_n hx hb dX7_composite_18 rfl (lv_at hl 3 rfl) ?_
    refine lv_iload_n hx hb dX7_composite_19 rfl (lv_at hl 4 rfl) ?_
    refine c_call (n := 2) (As := [.int (iI (a)), .int (iI (b))]) (rest := []) hx hb hml hts hown hK hNW hW (va_recv hK (cw11 hW (i := x.toNat) (by omega)) (ci := 1) (q0 := 0) rfl rfl) (c1_isStretch l D cT ad τ ρ hI.1 x.toNat (by omega) a (by omega) b (by omega)) gX7_composite_X1_isStretch rfl rfl rfl (by decide +kernel) ⟨by decide, by decide⟩ rfl hl.1 rfl (Nat.le_of_ble_eq_true rfl) ⟨Nat.zero_le _, Nat.zero_le _⟩ dX7_composite_20 ?_
    refine z_if_eqB (tgt := 47) hx hb dX7_composite_23 (by decide) (fun c1 => ?_) (fun c1 => ?_)
    · refine z_ldc2 (n := (-102)) hx hb hown (hts (.constantLong RX7 229 (-102)) (by decide +kernel)) (by decide) dX7_composite_47 ?_
      exact s_lret hx hb hr hlocks (by unfold spComp; repeat (first | rw [if_pos (by first | assumption | omega)] | rw [if_neg (by first | assumption | omega | (intro hk; exact hk (by assumption)))])) dX7_composite_50
    · refine lv_iload hx hb dX7_composite_26 (lv_at hl 6 rfl) ?_
      refine z_iconst hx hb dX7_composite_28 ?_
      refine z_iconst hx hb dX7_composite_29 ?_
      refine s_call (n := 3) (As := [.int (iI (u)), .int (iI (0)), .int (iI (2))]) (rest := []) hx hb hml hts hown (c7_isWithin l u (by omega) 0 (by omega) 2 (by omega)) gX7_composite_X7_isWithin rfl rfl rfl (by decide +kernel) ⟨by decide, by decide⟩ rfl hl.1 rfl (Nat.le_of_ble_eq_true rfl) ⟨Nat.zero_le _, Nat.zero_le _⟩ dX7_composite_30 ?_
      refine z_if_eqB (tgt := 47) hx hb dX7_composite_33 (by decide) (fun c2 => ?_) (fun c2 => ?_)
      · refine z_ldc2 (n := (-102)) hx hb hown (hts (.constantLong RX7 229 (-102)) (by decide +kernel)) (by decide) dX7_composite_47 ?_
        exact s_lret hx hb hr hlocks (by unfold spComp; repeat (first | rw [if_pos (by first | assumption | omega)] | rw [if_neg (by first | assumption | omega | (intro hk; exact hk (by assumption)))])) dX7_composite_50
      · refine lv_iload hx hb dX7_composite_36 (lv_at hl 5 rfl) ?_
        refine z_iconst hx hb dX7_composite_38 ?_
        refine z_ldc (n := 100000) hx hb hown (hts (.constant RX7 90 (100000)) (by decide +kernel)) (by decide) dX7_composite_39 ?_
        refine s_call (n := 3) (As := [.int (iI (t)), .int (iI (1)), .int (iI (100000))]) (rest := []) hx hb hml hts hown (c7_isWithin l t (by omega) 1 (by omega) 100000 (by omega)) gX7_composite_X7_isWithin rfl rfl rfl (by decide +kernel) ⟨by decide, by decide⟩ rfl hl.1 rfl (Nat.le_of_ble_eq_true rfl) ⟨Nat.zero_le _, Nat.zero_le _⟩ dX7_composite_41 ?_
        refine z_if_neB (tgt := 51) hx hb dX7_composite_44 (by decide) (fun c3 => ?_) (fun c3 => ?_)
        · obtain ⟨N, hN⟩ : ∃ N : Nat, τ 12 0 = N := ⟨(τ 12 0).toNat, by have : (0 : Int) ≤ τ 12 0 ∧ τ 12 0 ≤ 30 := hI.1 12 0; omega⟩
          have hN2 : (τ 12 0).toNat = N := by omega
          have hN3 : N ≤ 30 := by have : (0 : Int) ≤ τ 12 0 ∧ τ 12 0 ≤ 30 := hI.1 12 0; omega
          refine z_lconst (n := 0) hx hb (by decide) dX7_composite_51 ?_
          refine lv_lstore (lv' := [(7, .long (lL (0))), (6, .ref (ad 11 x.toNat)), (0, .ref (ad 0 0)), (1, .int (iI (x))), (2, .int (iI (a))), (3, .int (iI (b))), (4, .int (iI (t))), (5, .int (iI (u)))]) hx hb dX7_composite_52 hl (by decide) rfl (fun ls hl => ?_)
          refine z_iconst hx hb dX7_composite_54 ?_
          refine lv_istore (lv' := [(9, .int (iI (0))), (7, .long (lL (0))), (6, .ref (ad 11 x.toNat)), (0, .ref (ad 0 0)), (1, .int (iI (x))), (2, .int (iI (a))), (3, .int (iI (b))), (4, .int (iI (t))), (5, .int (iI (u)))]) hx hb dX7_composite_55 hl (by decide) rfl (fun ls hl => ?_)
          have lp57 : ∀ (n57 k : Nat) (x7 x9 : Int), x7 = sm (cpS τ x a b t u) k → x9 = (k : Int) → k ≤ N → N + 1 ≤ k + n57 → ∀ ls : Array Slot, lv_has ls 12 [(7, .long (lL (x7))), (9, .int (iI (x9))), (6, .ref (ad 11 x.toNat)), (0, .ref (ad 0 0)), (1, .int (iI (x))), (2, .int (iI (a))), (3, .int (iI (b))), (4, .int (iI (t))), (5, .int (iI (u)))] → W p l e { frames := 6, cells := 0, slots := 0, locals := 134 } s m [.ref (ad 0 0), .int (iI (x)), .int (iI (a)), .int (iI (b)), .int (iI (t)), .int (iI (u))].toArray below meth c s.heap [] 0 0 (MQ below (rL (spComp τ x a b t u)) [.ref (ad 0 0), .int (iI (x)), .int (iI (a)), .int (iI (b)), .int (iI (t)), .int (iI (u))].toArray s 0 0 (NoA)) (F0 m 57 ls []) := by
            intro n57
            induction n57 with
            | zero => intro k x7 x9  ex7 ex9 hk1 hk2; exact absurd hk2 (by omega)
            | succ n57 ih57 =>
              intro k x7 x9  ex7 ex9 hk1 hk2  ls hl
              subst ex7
              subst ex9
              have hcu := cp_uw τ k x a b t u
              have hgr := ga_r hI.1 (k : Int)
              have hgi := ga_in hI.1 (k : Int)
              refine lv_iload hx hb dX7_composite_57 (lv_at hl 1 rfl) ?_
              refine lv_aload_n hx hb dX7_composite_59 rfl (lv_at hl 3 rfl) ?_
              refine y_get (C := RX7) (T := TX7) (N := 11) (ref := "CoreShed") (ci := 7) hx hb hts hinX7 hown hK (cw0 hW) rfl 7 (by decide) (hts _ (by decide +kernel)) rfl (v := .int (iI (τ 12 0))) rfl dX7_composite_60 ?_
              have r4 : (0 : Int) ≤ τ 12 0 ∧ τ 12 0 ≤ 30 := hI.1 12 0
              refine z_icmp_ge (tgt := 141) hx hb (by omega) (by omega) dX7_composite_63 (by decide) (fun c5 => ?_) (fun c5 => ?_)
              · refine lv_lload hx hb dX7_composite_141 (lv_at hl 0 rfl) ?_
                exact s_lret hx hb hr hlocks (by unfold spComp; rw [if_neg (by omega), if_neg (fun hk => hk ⟨by omega, by omega, by omega⟩), hN2, show N = k by omega]) dX7_composite_143
              · refine lv_aload_n hx hb dX7_composite_66 rfl (lv_at hl 3 rfl) ?_
                refine y_get (C := RX7) (T := TX7) (N := 11) (ref := "CoreShed") (ci := 7) hx hb hts hinX7 hown hK (cw0 hW) rfl 1 (by decide) (hts _ (by decide +kernel)) rfl (v := .ref (ad 2 0)) rfl dX7_composite_67 ?_
                refine lv_iload hx hb dX7_composite_70 (lv_at hl 1 rfl) ?_
                refine y_aaldS (ty := .object "CoreShed$Sample") (j := k) (q := ad 18 k) hx hb hK 3 rfl (cw2 hW) rfl (by omega) (by omega) (by decide) (if_pos (by omega)) dX7_composite_72 ?_
                refine lv_iload_n hx hb dX7_composite_73 rfl (lv_at hl 4 rfl) ?_
                refine lv_iload_n hx hb dX7_composite_74 rfl (lv_at hl 5 rfl) ?_
                refine lv_iload_n hx hb dX7_composite_75 rfl (lv_at hl 6 rfl) ?_
                refine c_call (n := 3) (As := [.int (iI (x)), .int (iI (a)), .int (iI (b))]) (rest := []) hx hb hml hts hown hK hNW hW (va_recv hK (cw18 hW (i := k) (by omega)) (ci := 6) (q0 := 0) rfl rfl) (c6_unitsWithin l D cT ad τ ρ hI.1 k (by omega) x (by omega) a (by omega) b (by omega) (by omega)) gX7_composite_X6_unitsWithin rfl rfl rfl (by decide +kernel) ⟨by decide, by decide⟩ rfl hl.1 rfl (Nat.le_of_ble_eq_true rfl) ⟨Nat.zero_le _, Nat.zero_le _⟩ dX7_composite_76 ?_
                have r6 := uw_r hI.1 k x a b
                have r7 := uw_tk hI.1 k x a b
                refine lv_istore (lv' := [(10, .int (iI (uwI τ k x a b))), (7, .long (lL (sm (cpS τ x a b t u) k))), (9, .int (iI ((k : Int)))), (6, .ref (ad 11 x.toNat)), (0, .ref (ad 0 0)), (1, .int (iI (x))), (2, .int (iI (a))), (3, .int (iI (b))), (4, .int (iI (t))), (5, .int (iI (u)))]) hx hb dX7_composite_79 hl (by decide) rfl (fun ls hl => ?_)
                refine lv_iload hx hb dX7_composite_81 (lv_at hl 0 rfl) ?_
                refine z_if_ne (tgt := 90) hx hb (by omega) dX7_composite_83 (by decide) (fun c8 => ?_) (fun c8 => ?_)
                · by_cases hg : gaO τ (k : Int) = -1
                  · refine lv_aload_n hx hb dX7_composite_90 rfl (lv_at hl 4 rfl) ?_
                    refine lv_iload hx hb dX7_composite_91 (lv_at hl 2 rfl) ?_
                    refine c_callR (n := 1) (As := [.int (iI ((k : Int)))]) (rest := []) hx hb hml hts hown hK hNW hW (va_recv hK (cw0 hW) (ci := 7) (q0 := 0) rfl rfl) (c7_gradingPlace_none l D cT ad τ ρ hI.1 (k : Int) (by omega) (fun b => hI.wh b) (by omega)) gX7_composite_X7_gradingPlace rfl rfl rfl (by decide +kernel) ⟨by decide, by decide⟩ rfl hl.1 rfl (Nat.le_of_ble_eq_true rfl) ⟨Nat.zero_le _, Nat.zero_le _⟩ dX7_composite_93 ?_
                    refine lv_astoreN (lv' := [(11, .null), (10, .int (iI (uwI τ k x a b))), (7, .long (lL (sm (cpS τ x a b t u) k))), (9, .int (iI ((k : Int)))), (6, .ref (ad 11 x.toNat)), (0, .ref (ad 0 0)), (1, .int (iI (x))), (2, .int (iI (a))), (3, .int (iI (b))), (4, .int (iI (t))), (5, .int (iI (u)))]) hx hb dX7_composite_96 hl (by decide) rfl (fun ls hl => ?_)
                    refine lv_aloadN hx hb dX7_composite_98 (lv_at hl 0 rfl) ?_
                    refine lv_ifnullN (tgt := 135) hx hb dX7_composite_100 (by decide) ?_
                    have hst : sm (cpS τ x a b t u) k = sm (cpS τ x a b t u) (k + 1) := by rw [sm_s, cp_no (fun hk => hk.2 hg), Int.add_zero]
                    refine z_iinc (k := 3) (lv' := [(9, .int (iI ((k : Int) + 1))), (11, .null), (10, .int (iI (uwI τ k x a b))), (7, .long (lL (sm (cpS τ x a b t u) k))), (6, .ref (ad 11 x.toNat)), (0, .ref (ad 0 0)), (1, .int (iI (x))), (2, .int (iI (a))), (3, .int (iI (b))), (4, .int (iI (t))), (5, .int (iI (u)))]) hx hb dX7_composite_135 hl rfl (by decide) rfl (fun ls hl => ?_)
                    refine lv_goto (tgt := 57) hx hb dX7_composite_138 (by decide) ?_
                    exact ih57 (k + 1) (sm (cpS τ x a b t u) k) ((k : Int) + 1)  hst (by omega) (by omega) (by omega)  ls (lv_sub hl [3, 0, 4, 5, 6, 7, 8, 9, 10] rfl)
                  · refine lv_aload_n hx hb dX7_composite_90 rfl (lv_at hl 4 rfl) ?_
                    refine lv_iload hx hb dX7_composite_91 (lv_at hl 2 rfl) ?_
                    refine c_callR (n := 1) (As := [.int (iI ((k : Int)))]) (rest := []) hx hb hml hts hown hK hNW hW (va_recv hK (cw0 hW) (ci := 7) (q0 := 0) rfl rfl) (c7_gradingPlace_some l D cT ad τ ρ hI.1 (k : Int) (by omega) (fun b => hI.wh b) (by omega)) gX7_composite_X7_gradingPlace rfl rfl rfl (by decide +kernel) ⟨by decide, by decide⟩ rfl hl.1 rfl (Nat.le_of_ble_eq_true rfl) ⟨Nat.zero_le _, Nat.zero_le _⟩ dX7_composite_93 ?_
                    refine lv_astore (lv' := [(11, .ref (ad 21 (16 * (gaI τ (k : Int)).toNat + (plO τ (gaI τ (k : Int)).toNat (k : Int)).toNat))), (10, .int (iI (uwI τ k x a b))), (7, .long (lL (sm (cpS τ x a b t u) k))), (9, .int (iI ((k : Int)))), (6, .ref (ad 11 x.toNat)), (0, .ref (ad 0 0)), (1, .int (iI (x))), (2, .int (iI (a))), (3, .int (iI (b))), (4, .int (iI (t))), (5, .int (iI (u)))]) hx hb dX7_composite_96 hl (by decide) rfl (fun ls hl => ?_)
                    refine lv_aload hx hb dX7_composite_98 (lv_at hl 0 rfl) ?_
                    refine lv_ifnull hx hb dX7_composite_100 ?_
                    refine lv_lload hx hb dX7_composite_103 (lv_at hl 2 rfl) ?_
                    refine lv_iload hx hb dX7_composite_105 (lv_at hl 1 rfl) ?_
                    refine z_i2l hx hb (by omega) dX7_composite_107 ?_
                    refine lv_iload hx hb dX7_composite_108 (lv_at hl 10 rfl) ?_
                    refine z_iconst hx hb dX7_composite_110 ?_
                    refine z_icmp_ne (tgt := 118) hx hb (by omega) (by omega) dX7_composite_111 (by decide) (fun c9 => ?_) (fun c9 => ?_)
                    · refine lv_aload hx hb dX7_composite_118 (lv_at hl 0 rfl) ?_
                      refine lv_iload hx hb dX7_composite_120 (lv_at hl 10 rfl) ?_
                      refine c_call (n := 1) (As := [.int (iI (u))]) (rest := [.long (lL (uwI τ k x a b)), .long (lL (sm (cpS τ x a b t u) k))]) hx hb hml hts hown hK hNW hW (va_recv hK (cw21 hW (b := (gaI τ (k : Int)).toNat) (q := (plO τ (gaI τ (k : Int)).toNat (k : Int)).toNat) (by have := hgi hg; have h19 : (0 : Int) ≤ τ 19 (gaI τ k).toNat ∧ τ 19 (gaI τ k).toNat ≤ 16 := hI.1 19 _; omega) (by have := hgi hg; have h19 : (0 : Int) ≤ τ 19 (gaI τ k).toNat ∧ τ 19 (gaI τ k).toNat ≤ 16 := hI.1 19 _; omega) (by have := hgi hg; have h19 : (0 : Int) ≤ τ 19 (gaI τ k).toNat ∧ τ 19 (gaI τ k).toNat ≤ 16 := hI.1 19 _; omega)) (ci := 5) (q0 := 0) rfl rfl) (c5_endOn l D cT ad τ ρ hI.1 ((gaI τ (k : Int)).toNat) (by have := hgi hg; have h19 : (0 : Int) ≤ τ 19 (gaI τ k).toNat ∧ τ 19 (gaI τ k).toNat ≤ 16 := hI.1 19 _; omega) ((plO τ (gaI τ (k : Int)).toNat (k : Int)).toNat) (by have := hgi hg; have h19 : (0 : Int) ≤ τ 19 (gaI τ k).toNat ∧ τ 19 (gaI τ k).toNat ≤ 16 := hI.1 19 _; omega) u (by omega) (by have := hgi hg; have h19 : (0 : Int) ≤ τ 19 (gaI τ k).toNat ∧ τ 19 (gaI τ k).toNat ≤ 16 := hI.1 19 _; omega)) gX7_composite_X5_endOn rfl rfl rfl (by decide +kernel) ⟨by decide, by decide⟩ rfl hl.1 rfl (Nat.le_of_ble_eq_true rfl) ⟨Nat.zero_le _, Nat.zero_le _⟩ dX7_composite_122 ?_
                      have r10 := lo_r hI.1 (16 * ((gaI τ (k : Int)).toNat) + ((plO τ (gaI τ (k : Int)).toNat (k : Int)).toNat))
                      have r11 := up_r hI.1 (16 * ((gaI τ (k : Int)).toNat) + ((plO τ (gaI τ (k : Int)).toNat (k : Int)).toNat))
                      refine lv_iload hx hb dX7_composite_125 (lv_at hl 9 rfl) ?_
                      refine z_mmin (own := RX7) hx hb (hml.trans hl.1.symm) hown (hts (.methodLink RX7 235 Lib.Math.min.name) (by decide +kernel)) (hts (.static Lib.Math.min.name) (by decide +kernel)) (hts (.initialized "java/lang/Math") (by decide +kernel)) (hts (.code Lib.Math.min.name Lib.Math.min.code 2 (some .int)) (by decide +kernel)) (by decide) (Nat.le_of_ble_eq_true rfl) (Nat.zero_le _) (Nat.zero_le _) (by omega) (by omega) dX7_composite_127 ?_
                      refine z_i2l hx hb (by omega) dX7_composite_130 ?_
                      refine z_lmul hx hb dX7_composite_131 ?_
                      refine z_ladd hx hb dX7_composite_132 ?_
                      refine lv_lstore (lv' := [(7, .long (lL ((sm (cpS τ x a b t u) k) + ((uwI τ k x a b) * (min (if u = 0 then loO τ (16 * ((gaI τ (k : Int)).toNat) + ((plO τ (gaI τ (k : Int)).toNat (k : Int)).toNat)) else upO τ (16 * ((gaI τ (k : Int)).toNat) + ((plO τ (gaI τ (k : Int)).toNat (k : Int)).toNat))) t))))), (11, .ref (ad 21 (16 * (gaI τ (k : Int)).toNat + (plO τ (gaI τ (k : Int)).toNat (k : Int)).toNat))), (10, .int (iI (uwI τ k x a b))), (9, .int (iI ((k : Int)))), (6, .ref (ad 11 x.toNat)), (0, .ref (ad 0 0)), (1, .int (iI (x))), (2, .int (iI (a))), (3, .int (iI (b))), (4, .int (iI (t))), (5, .int (iI (u)))]) hx hb dX7_composite_133 hl (by decide) rfl (fun ls hl => ?_)
                      have hst : (sm (cpS τ x a b t u) k) + ((uwI τ k x a b) * (min (if u = 0 then loO τ (16 * ((gaI τ (k : Int)).toNat) + ((plO τ (gaI τ (k : Int)).toNat (k : Int)).toNat)) else upO τ (16 * ((gaI τ (k : Int)).toNat) + ((plO τ (gaI τ (k : Int)).toNat (k : Int)).toNat))) t)) = sm (cpS τ x a b t u) (k + 1) := by rw [sm_s, (hcu.2 (by omega)).2, cp_1 ⟨(hcu.2 (by omega)).1, hg⟩ (by omega), (hgi hg).2.2, mn_min]
                      refine z_iinc (k := 3) (lv' := [(9, .int (iI ((k : Int) + 1))), (7, .long (lL ((sm (cpS τ x a b t u) k) + ((uwI τ k x a b) * (min (if u = 0 then loO τ (16 * ((gaI τ (k : Int)).toNat) + ((plO τ (gaI τ (k : Int)).toNat (k : Int)).toNat)) else upO τ (16 * ((gaI τ (k : Int)).toNat) + ((plO τ (gaI τ (k : Int)).toNat (k : Int)).toNat))) t))))), (11, .ref (ad 21 (16 * (gaI τ (k : Int)).toNat + (plO τ (gaI τ (k : Int)).toNat (k : Int)).toNat))), (10, .int (iI (uwI τ k x a b))), (6, .ref (ad 11 x.toNat)), (0, .ref (ad 0 0)), (1, .int (iI (x))), (2, .int (iI (a))), (3, .int (iI (b))), (4, .int (iI (t))), (5, .int (iI (u)))]) hx hb dX7_composite_135 hl rfl (by decide) rfl (fun ls hl => ?_)
                      refine lv_goto (tgt := 57) hx hb dX7_composite_138 (by decide) ?_
                      exact ih57 (k + 1) ((sm (cpS τ x a b t u) k) + ((uwI τ k x a b) * (min (if u = 0 then loO τ (16 * ((gaI τ (k : Int)).toNat) + ((plO τ (gaI τ (k : Int)).toNat (k : Int)).toNat)) else upO τ (16 * ((gaI τ (k : Int)).toNat) + ((plO τ (gaI τ (k : Int)).toNat (k : Int)).toNat))) t))) ((k : Int) + 1)  hst (by omega) (by omega) (by omega)  ls (lv_sub hl [1, 0, 4, 5, 6, 7, 8, 9, 10] rfl)
                    · refine z_iconst hx hb dX7_composite_114 ?_
                      refine lv_goto (tgt := 130) hx hb dX7_composite_115 (by decide) ?_
                      refine z_i2l hx hb (by omega) dX7_composite_130 ?_
                      refine z_lmul hx hb dX7_composite_131 ?_
                      refine z_ladd hx hb dX7_composite_132 ?_
                      refine lv_lstore (lv' := [(7, .long (lL ((sm (cpS τ x a b t u) k) + ((uwI τ k x a b) * 1)))), (11, .ref (ad 21 (16 * (gaI τ (k : Int)).toNat + (plO τ (gaI τ (k : Int)).toNat (k : Int)).toNat))), (10, .int (iI (uwI τ k x a b))), (9, .int (iI ((k : Int)))), (6, .ref (ad 11 x.toNat)), (0, .ref (ad 0 0)), (1, .int (iI (x))), (2, .int (iI (a))), (3, .int (iI (b))), (4, .int (iI (t))), (5, .int (iI (u)))]) hx hb dX7_composite_133 hl (by decide) rfl (fun ls hl => ?_)
                      have hst : (sm (cpS τ x a b t u) k) + ((uwI τ k x a b) * 1) = sm (cpS τ x a b t u) (k + 1) := by rw [sm_s, (hcu.2 (by omega)).2, cp_2 ⟨(hcu.2 (by omega)).1, hg⟩ (by omega), Int.mul_one]
                      refine z_iinc (k := 3) (lv' := [(9, .int (iI ((k : Int) + 1))), (7, .long (lL ((sm (cpS τ x a b t u) k) + ((uwI τ k x a b) * 1)))), (11, .ref (ad 21 (16 * (gaI τ (k : Int)).toNat + (plO τ (gaI τ (k : Int)).toNat (k : Int)).toNat))), (10, .int (iI (uwI τ k x a b))), (6, .ref (ad 11 x.toNat)), (0, .ref (ad 0 0)), (1, .int (iI (x))), (2, .int (iI (a))), (3, .int (iI (b))), (4, .int (iI (t))), (5, .int (iI (u)))]) hx hb dX7_composite_135 hl rfl (by decide) rfl (fun ls hl => ?_)
                      refine lv_goto (tgt := 57) hx hb dX7_composite_138 (by decide) ?_
                      exact ih57 (k + 1) ((sm (cpS τ x a b t u) k) + ((uwI τ k x a b) * 1)) ((k : Int) + 1)  hst (by omega) (by omega) (by omega)  ls (lv_sub hl [1, 0, 4, 5, 6, 7, 8, 9, 10] rfl)
                · refine lv_null hx hb dX7_composite_86 ?_
                  refine lv_goto (tgt := 96) hx hb dX7_composite_87 (by decide) ?_
                  refine lv_astoreN (lv' := [(11, .null), (10, .int (iI (uwI τ k x a b))), (7, .long (lL (sm (cpS τ x a b t u) k))), (9, .int (iI ((k : Int)))), (6, .ref (ad 11 x.toNat)), (0, .ref (ad 0 0)), (1, .int (iI (x))), (2, .int (iI (a))), (3, .int (iI (b))), (4, .int (iI (t))), (5, .int (iI (u)))]) hx hb dX7_composite_96 hl (by decide) rfl (fun ls hl => ?_)
                  refine lv_aloadN hx hb dX7_composite_98 (lv_at hl 0 rfl) ?_
                  refine lv_ifnullN (tgt := 135) hx hb dX7_composite_100 (by decide) ?_
                  have hst : sm (cpS τ x a b t u) k = sm (cpS τ x a b t u) (k + 1) := by rw [sm_s, hcu.1 (by omega), Int.add_zero]
                  refine z_iinc (k := 3) (lv' := [(9, .int (iI ((k : Int) + 1))), (11, .null), (10, .int (iI (uwI τ k x a b))), (7, .long (lL (sm (cpS τ x a b t u) k))), (6, .ref (ad 11 x.toNat)), (0, .ref (ad 0 0)), (1, .int (iI (x))), (2, .int (iI (a))), (3, .int (iI (b))), (4, .int (iI (t))), (5, .int (iI (u)))]) hx hb dX7_composite_135 hl rfl (by decide) rfl (fun ls hl => ?_)
                  refine lv_goto (tgt := 57) hx hb dX7_composite_138 (by decide) ?_
                  exact ih57 (k + 1) (sm (cpS τ x a b t u) k) ((k : Int) + 1)  hst (by omega) (by omega) (by omega)  ls (lv_sub hl [3, 0, 4, 5, 6, 7, 8, 9, 10] rfl)
          exact lp57 (N + 1) 0 0 0  rfl (by omega) (by omega) (by omega)  ls (lv_sub hl [1, 0, 2, 3, 4, 5, 6, 7, 8] rfl)
        · refine z_ldc2 (n := (-102)) hx hb hown (hts (.constantLong RX7 229 (-102)) (by decide +kernel)) (by decide) dX7_composite_47 ?_
          exact s_lret hx hb hr hlocks (by unfold spComp; repeat (first | rw [if_pos (by first | assumption | omega)] | rw [if_neg (by first | assumption | omega | (intro hk; exact hk (by assumption)))])) dX7_composite_50
  · refine lv_aload_n hx hb dX7_composite_0 rfl (lv_at hl 0 rfl) ?_
    refine lv_iload_n hx hb dX7_composite_1 rfl (lv_at hl 1 rfl) ?_
    refine c_callR (n := 1) (As := [.int (iI (x))]) (rest := []) hx hb hml hts hown hK hNW hW (va_recv hK (cw0 hW) (ci := 7) (q0 := 0) rfl rfl) (c7_holeNamed_none l D cT ad τ ρ hI.1 x (by omega) (by omega)) gX7_composite_X7_holeNamed rfl rfl rfl (by decide +kernel) ⟨by decide, by decide⟩ rfl hl.1 rfl (Nat.le_of_ble_eq_true rfl) ⟨Nat.zero_le _, Nat.zero_le _⟩ dX7_composite_2 ?_
    refine lv_astoreN (lv' := [(6, .null), (0, .ref (ad 0 0)), (1, .int (iI (x))), (2, .int (iI (a))), (3, .int (iI (b))), (4, .int (iI (t))), (5, .int (iI (u)))]) hx hb dX7_composite_5 hl (by decide) rfl (fun ls hl => ?_)
    refine lv_aloadN hx hb dX7_composite_7 (lv_at hl 0 rfl) ?_
    refine lv_ifnonnullN hx hb dX7_composite_9 ?_
    refine z_ldc2 (n := (-101)) hx hb hown (hts (.constantLong RX7 227 (-101)) (by decide +kernel)) (by decide) dX7_composite_12 ?_
    exact s_lret hx hb hr hlocks (by unfold spComp; repeat (first | rw [if_pos (by first | assumption | omega)] | rw [if_neg (by first | assumption | omega | (intro hk; exact hk (by assumption)))])) dX7_composite_15
