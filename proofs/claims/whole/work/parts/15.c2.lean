set_option maxHeartbeats 4000000 in
set_option maxRecDepth 100000 in
theorem c0_placeOf_some (l : Launch) (D : va_G) (cT : Nat → ClassId) (ad : Adr) (τ ρ : Tau) (hI : Rng τ) (b : Nat) (hlb : (b : Int) < τ 18 0) (x : Int) (h_x : I32 x) (hp : ¬ plO τ b x = -1) : Met l yX0_placeOf wsX0_placeOf { frames := 0, cells := 0, slots := 0, locals := 0 } (cPc D cT ad τ ρ [.ref (ad 19 b), .int (iI (x))]) (rV (.ref (ad 21 (16 * b + (plO τ b x).toNat)))) 0 0 (NoA) := by
  refine c_start (by decide) rfl (Nat.le_of_ble_eq_true rfl) ?_
  intro p e s m below meth c hx hb hr hlocks hml hts hown hW hK hNW ls hl
  have hinX0 : ∀ w ∈ wsX00, w ∈ wsX0_placeOf := by decide +kernel
  have hinX5 : ∀ w ∈ wsX50, w ∈ wsX0_placeOf := by decide +kernel
  have hl : lv_has ls 3 [(0, .ref (ad 19 b)), (1, .int (iI (x)))] := hl
  obtain ⟨N, hN⟩ : ∃ N : Nat, τ 19 b = N := ⟨(τ 19 b).toNat, by have : (0 : Int) ≤ τ 19 b ∧ τ 19 b ≤ 16 := hI 19 b; omega⟩
  have hN2 : (τ 19 b).toNat = N := by omega
  have hN3 : N ≤ 16 := by have : (0 : Int) ≤ τ 19 b ∧ τ 19 b ≤ 16 := hI 19 b; omega
  refine z_iconst hx hb dX0_placeOf_0 ?_
  refine lv_istore_n (lv' := [(2, .int (iI (0))), (0, .ref (ad 19 b)), (1, .int (iI (x)))]) hx hb dX0_placeOf_1 rfl hl (by decide) rfl (fun ls hl => ?_)
  have lp2 : ∀ (n2 k : Nat) (x2 : Int), x2 = (k : Int) → k ≤ N → N + 1 ≤ k + n2 → (∀ j, j < k → plB τ b x j = false) → ∀ ls : Array Slot, lv_has ls 3 [(2, .int (iI (x2))), (0, .ref (ad 19 b)), (1, .int (iI (x)))] → W p l e { frames := 0, cells := 0, slots := 0, locals := 0 } s m [.ref (ad 19 b), .int (iI (x))].toArray below meth c s.heap [] 0 0 (MQ below (rV (.ref (ad 21 (16 * b + (plO τ b x).toNat)))) [.ref (ad 19 b), .int (iI (x))].toArray s 0 0 (NoA)) (F0 m 2 ls []) := by
    intro n2
    induction n2 with
    | zero => intro k x2  ex2 hk1 hk2; exact absurd hk2 (by omega)
    | succ n2 ih2 =>
      intro k x2  ex2 hk1 hk2 hn ls hl
      subst ex2
      refine lv_iload_n hx hb dX0_placeOf_2 rfl (lv_at hl 0 rfl) ?_
      refine lv_aload_n hx hb dX0_placeOf_3 rfl (lv_at hl 1 rfl) ?_
      refine y_get (C := RX0) (T := TX0) (N := 2) (ref := "CoreShed$Batch") (ci := 0) hx hb hts hinX0 hown hK (cw19 hW (i := b) (by omega)) rfl 1 (by decide) (hts _ (by decide +kernel)) rfl (v := .int (iI (τ 19 b))) rfl dX0_placeOf_4 ?_
      have r1 : (0 : Int) ≤ τ 19 b ∧ τ 19 b ≤ 16 := hI 19 b
      refine z_icmp_ge (tgt := 48) hx hb (by omega) (by omega) dX0_placeOf_7 (by decide) (fun c2 => ?_) (fun c2 => ?_)
      · exact absurd (by unfold plO; rw [hN2, show N = k by omega]; exact ff_no hn) hp
      · refine lv_aload_n hx hb dX0_placeOf_10 rfl (lv_at hl 1 rfl) ?_
        refine y_get (C := RX0) (T := TX0) (N := 2) (ref := "CoreShed$Batch") (ci := 0) hx hb hts hinX0 hown hK (cw19 hW (i := b) (by omega)) rfl 0 (by decide) (hts _ (by decide +kernel)) rfl (v := .ref (ad 20 b)) rfl dX0_placeOf_11 ?_
        refine lv_iload_n hx hb dX0_placeOf_14 rfl (lv_at hl 0 rfl) ?_
        refine y_aaldS (ty := .object "CoreShed$Place") (j := k) (q := ad 21 (16 * b + k)) hx hb hK 5 rfl (cw20 hW (i := b) (by omega)) rfl (by omega) (by omega) (by decide) (if_pos (by omega)) dX0_placeOf_15 ?_
        refine y_get (C := RX5) (T := TX5) (N := 5) (ref := "CoreShed$Place") (ci := 5) hx hb hts hinX5 hown hK (cw21 hW (b := b) (q := k) (by omega) (by omega) (by omega)) rfl 0 (by decide) (hts _ (by decide +kernel)) rfl (v := .int (iI (τ 20 (16 * b + k)))) rfl dX0_placeOf_16 ?_
        have r3 : (0 : Int) ≤ τ 20 (16 * b + k) ∧ τ 20 (16 * b + k) ≤ 3 := hI 20 (16 * b + k)
        refine z_if_ne (tgt := 42) hx hb (by omega) dX0_placeOf_19 (by decide) (fun c4 => ?_) (fun c4 => ?_)
        · refine z_iinc (k := 0) (lv' := [(2, .int (iI ((k : Int) + 1))), (0, .ref (ad 19 b)), (1, .int (iI (x)))]) hx hb dX0_placeOf_42 hl rfl (by decide) rfl (fun ls hl => ?_)
          refine lv_goto (tgt := 2) hx hb dX0_placeOf_45 (by decide) ?_
          exact ih2 (k + 1) ((k : Int) + 1)  (by omega) (by omega) (by omega) (fl_s hn (decide_eq_false (by omega))) ls (lv_sub hl [0, 1, 2] rfl)
        · refine lv_aload_n hx hb dX0_placeOf_22 rfl (lv_at hl 1 rfl) ?_
          refine y_get (C := RX0) (T := TX0) (N := 2) (ref := "CoreShed$Batch") (ci := 0) hx hb hts hinX0 hown hK (cw19 hW (i := b) (by omega)) rfl 0 (by decide) (hts _ (by decide +kernel)) rfl (v := .ref (ad 20 b)) rfl dX0_placeOf_23 ?_
          refine lv_iload_n hx hb dX0_placeOf_26 rfl (lv_at hl 0 rfl) ?_
          refine y_aaldS (ty := .object "CoreShed$Place") (j := k) (q := ad 21 (16 * b + k)) hx hb hK 5 rfl (cw20 hW (i := b) (by omega)) rfl (by omega) (by omega) (by decide) (if_pos (by omega)) dX0_placeOf_27 ?_
          refine y_get (C := RX5) (T := TX5) (N := 5) (ref := "CoreShed$Place") (ci := 5) hx hb hts hinX5 hown hK (cw21 hW (b := b) (q := k) (by omega) (by omega) (by omega)) rfl 1 (by decide) (hts _ (by decide +kernel)) rfl (v := .int (iI (τ 21 (16 * b + k)))) rfl dX0_placeOf_28 ?_
          have r5 : (0 : Int) ≤ τ 21 (16 * b + k) ∧ τ 21 (16 * b + k) ≤ 100000 := hI 21 (16 * b + k)
          refine lv_iload_n hx hb dX0_placeOf_31 rfl (lv_at hl 2 rfl) ?_
          refine z_icmp_ne (tgt := 42) hx hb (by omega) (by omega) dX0_placeOf_32 (by decide) (fun c6 => ?_) (fun c6 => ?_)
          · refine z_iinc (k := 0) (lv' := [(2, .int (iI ((k : Int) + 1))), (0, .ref (ad 19 b)), (1, .int (iI (x)))]) hx hb dX0_placeOf_42 hl rfl (by decide) rfl (fun ls hl => ?_)
            refine lv_goto (tgt := 2) hx hb dX0_placeOf_45 (by decide) ?_
            exact ih2 (k + 1) ((k : Int) + 1)  (by omega) (by omega) (by omega) (fl_s hn (decide_eq_false (by omega))) ls (lv_sub hl [0, 1, 2] rfl)
          · refine lv_aload_n hx hb dX0_placeOf_35 rfl (lv_at hl 1 rfl) ?_
            refine y_get (C := RX0) (T := TX0) (N := 2) (ref := "CoreShed$Batch") (ci := 0) hx hb hts hinX0 hown hK (cw19 hW (i := b) (by omega)) rfl 0 (by decide) (hts _ (by decide +kernel)) rfl (v := .ref (ad 20 b)) rfl dX0_placeOf_36 ?_
            refine lv_iload_n hx hb dX0_placeOf_39 rfl (lv_at hl 0 rfl) ?_
            refine y_aaldS (ty := .object "CoreShed$Place") (j := k) (q := ad 21 (16 * b + k)) hx hb hK 5 rfl (cw20 hW (i := b) (by omega)) rfl (by omega) (by omega) (by decide) (if_pos (by omega)) dX0_placeOf_40 ?_
            exact s_aretE hx hb hr hlocks (Or.inr ⟨_, rfl⟩) (by have hf : plO τ b x = k := (by unfold plO; rw [hN2]; exact ff_at hn (decide_eq_true (by omega)) (by omega)); rw [hf, Int.toNat_natCast]) dX0_placeOf_41
  exact lp2 (N + 1) 0 0  (by omega) (by omega) (by omega) fl_0 ls (lv_sub hl [0, 1, 2] rfl)
set_option maxHeartbeats 4000000 in
set_option maxRecDepth 100000 in
theorem c0_placeOf_none (l : Launch) (D : va_G) (cT : Nat → ClassId) (ad : Adr) (τ ρ : Tau) (hI : Rng τ) (b : Nat) (hlb : (b : Int) < τ 18 0) (x : Int) (h_x : I32 x) (hp : plO τ b x = -1) : Met l yX0_placeOf wsX0_placeOf { frames := 0, cells := 0, slots := 0, locals := 0 } (cPc D cT ad τ ρ [.ref (ad 19 b), .int (iI (x))]) (rV (.null)) 0 0 (NoA) := by
  refine c_start (by decide) rfl (Nat.le_of_ble_eq_true rfl) ?_
  intro p e s m below meth c hx hb hr hlocks hml hts hown hW hK hNW ls hl
  have hinX0 : ∀ w ∈ wsX00, w ∈ wsX0_placeOf := by decide +kernel
  have hinX5 : ∀ w ∈ wsX50, w ∈ wsX0_placeOf := by decide +kernel
  have hl : lv_has ls 3 [(0, .ref (ad 19 b)), (1, .int (iI (x)))] := hl
  obtain ⟨N, hN⟩ : ∃ N : Nat, τ 19 b = N := ⟨(τ 19 b).toNat, by have : (0 : Int) ≤ τ 19 b ∧ τ 19 b ≤ 16 := hI 19 b; omega⟩
  have hN2 : (τ 19 b).toNat = N := by omega
  have hN3 : N ≤ 16 := by have : (0 : Int) ≤ τ 19 b ∧ τ 19 b ≤ 16 := hI 19 b; omega
  refine z_iconst hx hb dX0_placeOf_0 ?_
  refine lv_istore_n (lv' := [(2, .int (iI (0))), (0, .ref (ad 19 b)), (1, .int (iI (x)))]) hx hb dX0_placeOf_1 rfl hl (by decide) rfl (fun ls hl => ?_)
  have lp2 : ∀ (n2 k : Nat) (x2 : Int), x2 = (k : Int) → k ≤ N → N + 1 ≤ k + n2 → (∀ j, j < k → plB τ b x j = false) → ∀ ls : Array Slot, lv_has ls 3 [(2, .int (iI (x2))), (0, .ref (ad 19 b)), (1, .int (iI (x)))] → W p l e { frames := 0, cells := 0, slots := 0, locals := 0 } s m [.ref (ad 19 b), .int (iI (x))].toArray below meth c s.heap [] 0 0 (MQ below (rV (.null)) [.ref (ad 19 b), .int (iI (x))].toArray s 0 0 (NoA)) (F0 m 2 ls []) := by
    intro n2
    induction n2 with
    | zero => intro k x2  ex2 hk1 hk2; exact absurd hk2 (by omega)
    | succ n2 ih2 =>
      intro k x2  ex2 hk1 hk2 hn ls hl
      subst ex2
      refine lv_iload_n hx hb dX0_placeOf_2 rfl (lv_at hl 0 rfl) ?_
      refine lv_aload_n hx hb dX0_placeOf_3 rfl (lv_at hl 1 rfl) ?_
      refine y_get (C := RX0) (T := TX0) (N := 2) (ref := "CoreShed$Batch") (ci := 0) hx hb hts hinX0 hown hK (cw19 hW (i := b) (by omega)) rfl 1 (by decide) (hts _ (by decide +kernel)) rfl (v := .int (iI (τ 19 b))) rfl dX0_placeOf_4 ?_
      have r1 : (0 : Int) ≤ τ 19 b ∧ τ 19 b ≤ 16 := hI 19 b
      refine z_icmp_ge (tgt := 48) hx hb (by omega) (by omega) dX0_placeOf_7 (by decide) (fun c2 => ?_) (fun c2 => ?_)
      · refine lv_null hx hb dX0_placeOf_48 ?_
        exact s_aretE hx hb hr hlocks (Or.inl rfl) (rfl) dX0_placeOf_49
      · refine lv_aload_n hx hb dX0_placeOf_10 rfl (lv_at hl 1 rfl) ?_
        refine y_get (C := RX0) (T := TX0) (N := 2) (ref := "CoreShed$Batch") (ci := 0) hx hb hts hinX0 hown hK (cw19 hW (i := b) (by omega)) rfl 0 (by decide) (hts _ (by decide +kernel)) rfl (v := .ref (ad 20 b)) rfl dX0_placeOf_11 ?_
        refine lv_iload_n hx hb dX0_placeOf_14 rfl (lv_at hl 0 rfl) ?_
        refine y_aaldS (ty := .object "CoreShed$Place") (j := k) (q := ad 21 (16 * b + k)) hx hb hK 5 rfl (cw20 hW (i := b) (by omega)) rfl (by omega) (by omega) (by decide) (if_pos (by omega)) dX0_placeOf_15 ?_
        refine y_get (C := RX5) (T := TX5) (N := 5) (ref := "CoreShed$Place") (ci := 5) hx hb hts hinX5 hown hK (cw21 hW (b := b) (q := k) (by omega) (by omega) (by omega)) rfl 0 (by decide) (hts _ (by decide +kernel)) rfl (v := .int (iI (τ 20 (16 * b + k)))) rfl dX0_placeOf_16 ?_
        have r3 : (0 : Int) ≤ τ 20 (16 * b + k) ∧ τ 20 (16 * b + k) ≤ 3 := hI 20 (16 * b + k)
        refine z_if_ne (tgt := 42) hx hb (by omega) dX0_placeOf_19 (by decide) (fun c4 => ?_) (fun c4 => ?_)
        · refine z_iinc (k := 0) (lv' := [(2, .int (iI ((k : Int) + 1))), (0, .ref (ad 19 b)), (1, .int (iI (x)))]) hx hb dX0_placeOf_42 hl rfl (by decide) rfl (fun ls hl => ?_)
          refine lv_goto (tgt := 2) hx hb dX0_placeOf_45 (by decide) ?_
          exact ih2 (k + 1) ((k : Int) + 1)  (by omega) (by omega) (by omega) (fl_s hn (decide_eq_false (by omega))) ls (lv_sub hl [0, 1, 2] rfl)
        · refine lv_aload_n hx hb dX0_placeOf_22 rfl (lv_at hl 1 rfl) ?_
          refine y_get (C := RX0) (T := TX0) (N := 2) (ref := "CoreShed$Batch") (ci := 0) hx hb hts hinX0 hown hK (cw19 hW (i := b) (by omega)) rfl 0 (by decide) (hts _ (by decide +kernel)) rfl (v := .ref (ad 20 b)) rfl dX0_placeOf_23 ?_
          refine lv_iload_n hx hb dX0_placeOf_26 rfl (lv_at hl 0 rfl) ?_
          refine y_aaldS (ty := .object "CoreShed$Place") (j := k) (q := ad 21 (16 * b + k)) hx hb hK 5 rfl (cw20 hW (i := b) (by omega)) rfl (by omega) (by omega) (by decide) (if_pos (by omega)) dX0_placeOf_27 ?_
          refine y_get (C := RX5) (T := TX5) (N := 5) (ref := "CoreShed$Place") (ci := 5) hx hb hts hinX5 hown hK (cw21 hW (b := b) (q := k) (by omega) (by omega) (by omega)) rfl 1 (by decide) (hts _ (by decide +kernel)) rfl (v := .int (iI (τ 21 (16 * b + k)))) rfl dX0_placeOf_28 ?_
          have r5 : (0 : Int) ≤ τ 21 (16 * b + k) ∧ τ 21 (16 * b + k) ≤ 100000 := hI 21 (16 * b + k)
          refine lv_iload_n hx hb dX0_placeOf_31 rfl (lv_at hl 2 rfl) ?_
          refine z_icmp_ne (tgt := 42) hx hb (by omega) (by omega) dX0_placeOf_32 (by decide) (fun c6 => ?_) (fun c6 => ?_)
          · refine z_iinc (k := 0) (lv' := [(2, .int (iI ((k : Int) + 1))), (0, .ref (ad 19 b)), (1, .int (iI (x)))]) hx hb dX0_placeOf_42 hl rfl (by decide) rfl (fun ls hl => ?_)
            refine lv_goto (tgt := 2) hx hb dX0_placeOf_45 (by decide) ?_
            exact ih2 (k + 1) ((k : Int) + 1)  (by omega) (by omega) (by omega) (fl_s hn (decide_eq_false (by omega))) ls (lv_sub hl [0, 1, 2] rfl)
          · (have hf : plO τ b x = k := (by unfold plO; rw [hN2]; exact ff_at hn (decide_eq_true (by omega)) (by omega))); exfalso; omega
  exact lp2 (N + 1) 0 0  (by omega) (by omega) (by omega) fl_0 ls (lv_sub hl [0, 1, 2] rfl)
set_option maxHeartbeats 4000000 in
set_option maxRecDepth 100000 in
theorem c0_hasAnyResult (l : Launch) (D : va_G) (cT : Nat → ClassId) (ad : Adr) (τ ρ : Tau) (hI : Rng τ) (b : Nat) (hlb : (b : Int) < τ 18 0)  : Met l yX0_hasAnyResult wsX0_hasAnyResult { frames := 0, cells := 0, slots := 0, locals := 0 } (cPc D cT ad τ ρ [.ref (ad 19 b)]) (rS (bI (hrO τ b = true))) 0 0 (NoA) := by
  refine c_start (by decide) rfl (Nat.le_of_ble_eq_true rfl) ?_
  intro p e s m below meth c hx hb hr hlocks hml hts hown hW hK hNW ls hl
  have hinX0 : ∀ w ∈ wsX00, w ∈ wsX0_hasAnyResult := by decide +kernel
  have hinX5 : ∀ w ∈ wsX50, w ∈ wsX0_hasAnyResult := by decide +kernel
  have hl : lv_has ls 2 [(0, .ref (ad 19 b))] := hl
  obtain ⟨N, hN⟩ : ∃ N : Nat, τ 19 b = N := ⟨(τ 19 b).toNat, by have : (0 : Int) ≤ τ 19 b ∧ τ 19 b ≤ 16 := hI 19 b; omega⟩
  have hN2 : (τ 19 b).toNat = N := by omega
  have hN3 : N ≤ 16 := by have : (0 : Int) ≤ τ 19 b ∧ τ 19 b ≤ 16 := hI 19 b; omega
  refine z_iconst hx hb dX0_hasAnyResult_0 ?_
  refine lv_istore_n (lv' := [(1, .int (iI (0))), (0, .ref (ad 19 b))]) hx hb dX0_hasAnyResult_1 rfl hl (by decide) rfl (fun ls hl => ?_)
  have lp2 : ∀ (n2 k : Nat) (x1 : Int), x1 = (k : Int) → k ≤ N → N + 1 ≤ k + n2 → (∀ j, j < k → (fun q => decide (¬ τ 23 (16 * b + q) = 0)) j = false) → ∀ ls : Array Slot, lv_has ls 2 [(1, .int (iI (x1))), (0, .ref (ad 19 b))] → W p l e { frames := 0, cells := 0, slots := 0, locals := 0 } s m [.ref (ad 19 b)].toArray below meth c s.heap [] 0 0 (MQ below (rS (bI (hrO τ b = true))) [.ref (ad 19 b)].toArray s 0 0 (NoA)) (F0 m 2 ls []) := by
    intro n2
    induction n2 with
    | zero => intro k x1  ex1 hk1 hk2; exact absurd hk2 (by omega)
    | succ n2 ih2 =>
      intro k x1  ex1 hk1 hk2 hn ls hl
      subst ex1
      refine lv_iload_n hx hb dX0_hasAnyResult_2 rfl (lv_at hl 0 rfl) ?_
      refine lv_aload_n hx hb dX0_hasAnyResult_3 rfl (lv_at hl 1 rfl) ?_
      refine y_get (C := RX0) (T := TX0) (N := 2) (ref := "CoreShed$Batch") (ci := 0) hx hb hts hinX0 hown hK (cw19 hW (i := b) (by omega)) rfl 1 (by decide) (hts _ (by decide +kernel)) rfl (v := .int (iI (τ 19 b))) rfl dX0_hasAnyResult_4 ?_
      have r1 : (0 : Int) ≤ τ 19 b ∧ τ 19 b ≤ 16 := hI 19 b
      refine z_icmp_ge (tgt := 30) hx hb (by omega) (by omega) dX0_hasAnyResult_7 (by decide) (fun c2 => ?_) (fun c2 => ?_)
      · refine z_iconst hx hb dX0_hasAnyResult_30 ?_
        exact s_zret hx hb hr hlocks ((bI_f (by unfold hrO hrK; rw [hN2, show N = k by omega, exs_f hn]; decide)).symm) dX0_hasAnyResult_31
      · refine lv_aload_n hx hb dX0_hasAnyResult_10 rfl (lv_at hl 1 rfl) ?_
        refine y_get (C := RX0) (T := TX0) (N := 2) (ref := "CoreShed$Batch") (ci := 0) hx hb hts hinX0 hown hK (cw19 hW (i := b) (by omega)) rfl 0 (by decide) (hts _ (by decide +kernel)) rfl (v := .ref (ad 20 b)) rfl dX0_hasAnyResult_11 ?_
        refine lv_iload_n hx hb dX0_hasAnyResult_14 rfl (lv_at hl 0 rfl) ?_
        refine y_aaldS (ty := .object "CoreShed$Place") (j := k) (q := ad 21 (16 * b + k)) hx hb hK 5 rfl (cw20 hW (i := b) (by omega)) rfl (by omega) (by omega) (by decide) (if_pos (by omega)) dX0_hasAnyResult_15 ?_
        refine y_get (C := RX5) (T := TX5) (N := 5) (ref := "CoreShed$Place") (ci := 5) hx hb hts hinX5 hown hK (cw21 hW (b := b) (q := k) (by omega) (by omega) (by omega)) rfl 3 (by decide) (hts _ (by decide +kernel)) rfl (v := .int (iI (τ 23 (16 * b + k)))) rfl dX0_hasAnyResult_16 ?_
        have r3 : (0 : Int) ≤ τ 23 (16 * b + k) ∧ τ 23 (16 * b + k) ≤ 1 := hI 23 (16 * b + k)
        refine z_if_eq (tgt := 24) hx hb (by omega) dX0_hasAnyResult_19 (by decide) (fun c4 => ?_) (fun c4 => ?_)
        · refine z_iinc (k := 0) (lv' := [(1, .int (iI ((k : Int) + 1))), (0, .ref (ad 19 b))]) hx hb dX0_hasAnyResult_24 hl rfl (by decide) rfl (fun ls hl => ?_)
          refine lv_goto (tgt := 2) hx hb dX0_hasAnyResult_27 (by decide) ?_
          exact ih2 (k + 1) ((k : Int) + 1)  (by omega) (by omega) (by omega) (fl_s hn (decide_eq_false (by omega))) ls (lv_sub hl [0, 1] rfl)
        · refine z_iconst hx hb dX0_hasAnyResult_22 ?_
          exact s_zret hx hb hr hlocks ((bI_t (by unfold hrO hrK; rw [hN2]; exact exs_t (j := k) (decide_eq_true (by omega)) (by omega))).symm) dX0_hasAnyResult_23
  exact lp2 (N + 1) 0 0  (by omega) (by omega) (by omega) fl_0 ls (lv_sub hl [0, 1] rfl)
set_option maxHeartbeats 4000000 in
set_option maxRecDepth 100000 in
theorem c0_isComplete (l : Launch) (D : va_G) (cT : Nat → ClassId) (ad : Adr) (τ ρ : Tau) (hI : Rng τ) (b : Nat) (hlb : (b : Int) < τ 18 0)  : Met l yX0_isComplete wsX0_isComplete { frames := 0, cells := 0, slots := 0, locals := 0 } (cPc D cT ad τ ρ [.ref (ad 19 b)]) (rS (bI (tdO τ b = true))) 0 0 (NoA) := by
  refine c_start (by decide) rfl (Nat.le_of_ble_eq_true rfl) ?_
  intro p e s m below meth c hx hb hr hlocks hml hts hown hW hK hNW ls hl
  have hinX0 : ∀ w ∈ wsX00, w ∈ wsX0_isComplete := by decide +kernel
  have hinX5 : ∀ w ∈ wsX50, w ∈ wsX0_isComplete := by decide +kernel
  have hl : lv_has ls 2 [(0, .ref (ad 19 b))] := hl
  obtain ⟨N, hN⟩ : ∃ N : Nat, τ 19 b = N := ⟨(τ 19 b).toNat, by have : (0 : Int) ≤ τ 19 b ∧ τ 19 b ≤ 16 := hI 19 b; omega⟩
  have hN2 : (τ 19 b).toNat = N := by omega
  have hN3 : N ≤ 16 := by have : (0 : Int) ≤ τ 19 b ∧ τ 19 b ≤ 16 := hI 19 b; omega
  refine z_iconst hx hb dX0_isComplete_0 ?_
  refine lv_istore_n (lv' := [(1, .int (iI (0))), (0, .ref (ad 19 b))]) hx hb dX0_isComplete_1 rfl hl (by decide) rfl (fun ls hl => ?_)
  have lp2 : ∀ (n2 k : Nat) (x1 : Int), x1 = (k : Int) → k ≤ N → N + 1 ≤ k + n2 → (∀ j, j < k → (fun q => decide (¬ τ 23 (16 * b + q) = 0)) j = true) → ∀ ls : Array Slot, lv_has ls 2 [(1, .int (iI (x1))), (0, .ref (ad 19 b))] → W p l e { frames := 0, cells := 0, slots := 0, locals := 0 } s m [.ref (ad 19 b)].toArray below meth c s.heap [] 0 0 (MQ below (rS (bI (tdO τ b = true))) [.ref (ad 19 b)].toArray s 0 0 (NoA)) (F0 m 2 ls []) := by
    intro n2
    induction n2 with
    | zero => intro k x1  ex1 hk1 hk2; exact absurd hk2 (by omega)
    | succ n2 ih2 =>
      intro k x1  ex1 hk1 hk2 hn ls hl
      subst ex1
      refine lv_iload_n hx hb dX0_isComplete_2 rfl (lv_at hl 0 rfl) ?_
      refine lv_aload_n hx hb dX0_isComplete_3 rfl (lv_at hl 1 rfl) ?_
      refine y_get (C := RX0) (T := TX0) (N := 2) (ref := "CoreShed$Batch") (ci := 0) hx hb hts hinX0 hown hK (cw19 hW (i := b) (by omega)) rfl 1 (by decide) (hts _ (by decide +kernel)) rfl (v := .int (iI (τ 19 b))) rfl dX0_isComplete_4 ?_
      have r1 : (0 : Int) ≤ τ 19 b ∧ τ 19 b ≤ 16 := hI 19 b
      refine z_icmp_ge (tgt := 30) hx hb (by omega) (by omega) dX0_isComplete_7 (by decide) (fun c2 => ?_) (fun c2 => ?_)
      · refine lv_aload_n hx hb dX0_isComplete_30 rfl (lv_at hl 1 rfl) ?_
        refine y_get (C := RX0) (T := TX0) (N := 2) (ref := "CoreShed$Batch") (ci := 0) hx hb hts hinX0 hown hK (cw19 hW (i := b) (by omega)) rfl 1 (by decide) (hts _ (by decide +kernel)) rfl (v := .int (iI (τ 19 b))) rfl dX0_isComplete_31 ?_
        refine z_if_le (tgt := 41) hx hb (by omega) dX0_isComplete_34 (by decide) (fun c3 => ?_) (fun c3 => ?_)
        · refine z_iconst hx hb dX0_isComplete_41 ?_
          exact s_zret hx hb hr hlocks ((bI_f (by unfold tdO tdK; rw [decide_eq_false (by omega)]; simp)).symm) dX0_isComplete_42
        · refine z_iconst hx hb dX0_isComplete_37 ?_
          refine lv_goto (tgt := 42) hx hb dX0_isComplete_38 (by decide) ?_
          exact s_zret hx hb hr hlocks ((bI_t (by unfold tdO tdK; rw [hN2, show N = k by omega, als_t hn, decide_eq_true (by omega)]; rfl)).symm) dX0_isComplete_42
      · refine lv_aload_n hx hb dX0_isComplete_10 rfl (lv_at hl 1 rfl) ?_
        refine y_get (C := RX0) (T := TX0) (N := 2) (ref := "CoreShed$Batch") (ci := 0) hx hb hts hinX0 hown hK (cw19 hW (i := b) (by omega)) rfl 0 (by decide) (hts _ (by decide +kernel)) rfl (v := .ref (ad 20 b)) rfl dX0_isComplete_11 ?_
        refine lv_iload_n hx hb dX0_isComplete_14 rfl (lv_at hl 0 rfl) ?_
        refine y_aaldS (ty := .object "CoreShed$Place") (j := k) (q := ad 21 (16 * b + k)) hx hb hK 5 rfl (cw20 hW (i := b) (by omega)) rfl (by omega) (by omega) (by decide) (if_pos (by omega)) dX0_isComplete_15 ?_
        refine y_get (C := RX5) (T := TX5) (N := 5) (ref := "CoreShed$Place") (ci := 5) hx hb hts hinX5 hown hK (cw21 hW (b := b) (q := k) (by omega) (by omega) (by omega)) rfl 3 (by decide) (hts _ (by decide +kernel)) rfl (v := .int (iI (τ 23 (16 * b + k)))) rfl dX0_isComplete_16 ?_
        have r4 : (0 : Int) ≤ τ 23 (16 * b + k) ∧ τ 23 (16 * b + k) ≤ 1 := hI 23 (16 * b + k)
        refine z_if_ne (tgt := 24) hx hb (by omega) dX0_isComplete_19 (by decide) (fun c5 => ?_) (fun c5 => ?_)
        · refine z_iinc (k := 0) (lv' := [(1, .int (iI ((k : Int) + 1))), (0, .ref (ad 19 b))]) hx hb dX0_isComplete_24 hl rfl (by decide) rfl (fun ls hl => ?_)
          refine lv_goto (tgt := 2) hx hb dX0_isComplete_27 (by decide) ?_
          exact ih2 (k + 1) ((k : Int) + 1)  (by omega) (by omega) (by omega) (ft_s hn (decide_eq_true (by omega))) ls (lv_sub hl [0, 1] rfl)
        · refine z_iconst hx hb dX0_isComplete_22 ?_
          exact s_zret hx hb hr hlocks ((bI_f (by unfold tdO tdK; rw [hN2, als_f (j := k) (f := fun q => decide (¬ τ 23 (16 * b + q) = 0)) (decide_eq_false (by omega)) (by omega), Bool.and_false]; decide)).symm) dX0_isComplete_23
  exact lp2 (N + 1) 0 0  (by omega) (by omega) (by omega) ft_0 ls (lv_sub hl [0, 1] rfl)
set_option maxHeartbeats 4000000 in
set_option maxRecDepth 100000 in
theorem c0_isNear (l : Launch) (a : Int) (h_a : I32 a) (u : Int) (h_u : I32 u) (v : Int) (h_v : I32 v) (ha : 0 ≤ a ∧ a ≤ 100000) (hu : 0 ≤ u ∧ u ≤ 100000) (hv : 0 ≤ v ∧ v ≤ 1000) : Met l yX0_isNear wsX0_isNear { frames := 1, cells := 0, slots := 0, locals := 21 } (sPc [.int (iI (a)), .int (iI (u)), .int (iI (v))]) (rS (bI (1000 * farI a u ≤ v * mxI a u))) 0 0 (NoA) := by
  refine s_start (by decide) rfl (Nat.le_of_ble_eq_true rfl) ?_
  intro p e s m below meth c hx hb hr hlocks hml hts hown ls hl
  have hl : lv_has ls 3 [(0, .int (iI (a))), (1, .int (iI (u))), (2, .int (iI (v)))] := hl
  have hl4 := far_r ha hu
  have hl5 := mx_r ha hu
  have hl7 := mul_r hv hl5
  refine lv_iload_n hx hb dX0_isNear_0 rfl (lv_at hl 0 rfl) ?_
  refine lv_iload_n hx hb dX0_isNear_1 rfl (lv_at hl 1 rfl) ?_
  refine z_isub hx hb dX0_isNear_2 ?_
  refine z_mabs (own := RX0) hx hb (hml.trans hl.1.symm) hown (hts (.methodLink RX0 47 Lib.Math.abs.name) (by decide +kernel)) (hts (.static Lib.Math.abs.name) (by decide +kernel)) (hts (.initialized "java/lang/Math") (by decide +kernel)) (hts (.code Lib.Math.abs.name Lib.Math.abs.code 1 (some .int)) (by decide +kernel)) (by decide) (Nat.le_of_ble_eq_true rfl) (Nat.zero_le _) (Nat.zero_le _) (by omega) dX0_isNear_3 ?_
  refine z_top (show abI (a - u) = farI a u from by unfold abI farI; split <;> split <;> omega) ?_
  refine z_sipush hx hb dX0_isNear_6 (by decide) ?_
  refine z_imul hx hb dX0_isNear_9 ?_
  refine lv_iload_n hx hb dX0_isNear_10 rfl (lv_at hl 2 rfl) ?_
  refine lv_iload_n hx hb dX0_isNear_11 rfl (lv_at hl 0 rfl) ?_
  refine lv_iload_n hx hb dX0_isNear_12 rfl (lv_at hl 1 rfl) ?_
  refine z_mmax (own := RX0) hx hb (hml.trans hl.1.symm) hown (hts (.methodLink RX0 63 Lib.Math.max.name) (by decide +kernel)) (hts (.static Lib.Math.max.name) (by decide +kernel)) (hts (.initialized "java/lang/Math") (by decide +kernel)) (hts (.code Lib.Math.max.name Lib.Math.max.code 2 (some .int)) (by decide +kernel)) (by decide) (Nat.le_of_ble_eq_true rfl) (Nat.zero_le _) (Nat.zero_le _) (by omega) (by omega) dX0_isNear_13 ?_
  refine z_top (show max a u = mxI a u from by unfold mxI; split <;> omega) ?_
  refine z_imul hx hb dX0_isNear_16 ?_
  refine z_icmp_gt (tgt := 24) hx hb (by omega) (by omega) dX0_isNear_17 (by decide) (fun c1 => ?_) (fun c1 => ?_)
  · refine z_iconst hx hb dX0_isNear_24 ?_
    exact s_zret hx hb hr hlocks ((bI_f (by omega)).symm) dX0_isNear_25
  · refine z_iconst hx hb dX0_isNear_20 ?_
    refine lv_goto (tgt := 25) hx hb dX0_isNear_21 (by decide) ?_
    exact s_zret hx hb hr hlocks ((bI_t (by omega)).symm) dX0_isNear_25
set_option maxHeartbeats 4000000 in
set_option maxRecDepth 100000 in
theorem c0_isRight (l : Launch) (D : va_G) (cT : Nat → ClassId) (ad : Adr) (τ ρ : Tau) (hI : Rng τ) (b : Nat) (hlb : (b : Int) < τ 18 0) (q : Nat) (hlq : (q : Int) < τ 19 b) (hq16 : q < 16) (hw : τ 20 (16 * b + q) = 3 → τ 21 (16 * b + q) < q) : Met l yX0_isRight wsX0_isRight { frames := 2, cells := 0, slots := 0, locals := 43 } (cPc D cT ad τ ρ [.ref (ad 19 b), .ref (ad 21 (16 * b + q)), .int (iI (τ 25 0)), .int (iI (τ 25 1))]) (rS (bI (gdP τ b q))) 0 0 (NoA) := by
  refine c_start (by decide) rfl (Nat.le_of_ble_eq_true rfl) ?_
  intro p e s m below meth c hx hb hr hlocks hml hts hown hW hK hNW ls hl
  have hinX0 : ∀ w ∈ wsX00, w ∈ wsX0_isRight := by decide +kernel
  have hinX5 : ∀ w ∈ wsX50, w ∈ wsX0_isRight := by decide +kernel
  have hl : lv_has ls 4 [(0, .ref (ad 19 b)), (1, .ref (ad 21 (16 * b + q))), (2, .int (iI (τ 25 0))), (3, .int (iI (τ 25 1)))] := hl
  have hl1 := lo_r hI (16 * b + q)
  have hl2 := up_r hI (16 * b + q)
  have hl3 : (0 : Int) ≤ τ 21 (16 * b + q) ∧ τ 21 (16 * b + q) ≤ 100000 := hI 21 (16 * b + q)
  have hl4 := far_r hl1 hl3
  have hl5 := far_r hl2 hl3
  have hl6 : (0 : Int) ≤ τ 25 1 ∧ τ 25 1 ≤ 1000 := hI 25 1
  have hl8 : (0 : Int) ≤ τ 25 0 ∧ τ 25 0 ≤ 1000 := hI 25 0
  have hl20 : (0 : Int) ≤ τ 20 (16 * b + q) ∧ τ 20 (16 * b + q) ≤ 3 := hI 20 (16 * b + q)
  refine lv_aload_n hx hb dX0_isRight_0 rfl (lv_at hl 1 rfl) ?_
  refine y_get (C := RX5) (T := TX5) (N := 5) (ref := "CoreShed$Place") (ci := 5) hx hb hts hinX5 hown hK (cw21 hW (b := b) (q := q) (by omega) (by omega) (by omega)) rfl 0 (by decide) (hts _ (by decide +kernel)) rfl (v := .int (iI (τ 20 (16 * b + q)))) rfl dX0_isRight_1 ?_
  have r1 : (0 : Int) ≤ τ 20 (16 * b + q) ∧ τ 20 (16 * b + q) ≤ 3 := hI 20 (16 * b + q)
  rcases (show τ 20 (16 * b + q) = 1 ∨ τ 20 (16 * b + q) = 2 ∨ τ 20 (16 * b + q) = 3 ∨ (τ 20 (16 * b + q) < 1 ∨ 3 < τ 20 (16 * b + q)) by omega) with k2 | k2 | k2 | k2
  · refine z_tabIn (tgt := 32) (off := 28) (k := 0) hx hb (by omega) dX0_isRight_4 (by omega) (by omega) (by decide +kernel) (by decide) ?_
    refine lv_aload_n hx hb dX0_isRight_32 rfl (lv_at hl 1 rfl) ?_
    refine c_call (n := 0) (As := []) (rest := []) hx hb hml hts hown hK hNW hW (va_recv hK (cw21 hW (b := b) (q := q) (by omega) (by omega) (by omega)) (ci := 5) (q0 := 0) rfl rfl) (c5_lower l D cT ad τ ρ hI b (by omega) q (by omega) (by omega)) gX0_isRight_X5_lower rfl rfl rfl (by decide +kernel) ⟨by decide, by decide⟩ rfl hl.1 rfl (Nat.le_of_ble_eq_true rfl) ⟨Nat.zero_le _, Nat.zero_le _⟩ dX0_isRight_33 ?_
    have r3 := lo_r hI (16 * b + q)
    refine lv_aload_n hx hb dX0_isRight_36 rfl (lv_at hl 1 rfl) ?_
    refine y_get (C := RX5) (T := TX5) (N := 5) (ref := "CoreShed$Place") (ci := 5) hx hb hts hinX5 hown hK (cw21 hW (b := b) (q := q) (by omega) (by omega) (by omega)) rfl 1 (by decide) (hts _ (by decide +kernel)) rfl (v := .int (iI (τ 21 (16 * b + q)))) rfl dX0_isRight_37 ?_
    have r4 : (0 : Int) ≤ τ 21 (16 * b + q) ∧ τ 21 (16 * b + q) ≤ 100000 := hI 21 (16 * b + q)
    refine z_isub hx hb dX0_isRight_40 ?_
    refine z_mabs (own := RX0) hx hb (hml.trans hl.1.symm) hown (hts (.methodLink RX0 47 Lib.Math.abs.name) (by decide +kernel)) (hts (.static Lib.Math.abs.name) (by decide +kernel)) (hts (.initialized "java/lang/Math") (by decide +kernel)) (hts (.code Lib.Math.abs.name Lib.Math.abs.code 1 (some .int)) (by decide +kernel)) (by decide) (Nat.le_of_ble_eq_true rfl) (Nat.zero_le _) (Nat.zero_le _) (by omega) dX0_isRight_41 ?_
    refine z_top (show abI ((loO τ (16 * b + q)) - (τ 21 (16 * b + q))) = farI (loO τ (16 * b + q)) (τ 21 (16 * b + q)) from by unfold abI farI; split <;> split <;> omega) ?_
    refine lv_aload_n hx hb dX0_isRight_44 rfl (lv_at hl 1 rfl) ?_
    refine y_get (C := RX5) (T := TX5) (N := 5) (ref := "CoreShed$Place") (ci := 5) hx hb hts hinX5 hown hK (cw21 hW (b := b) (q := q) (by omega) (by omega) (by omega)) rfl 2 (by decide) (hts _ (by decide +kernel)) rfl (v := .int (iI (τ 22 (16 * b + q)))) rfl dX0_isRight_45 ?_
    have r5 : (0 : Int) ≤ τ 22 (16 * b + q) ∧ τ 22 (16 * b + q) ≤ 10000 := hI 22 (16 * b + q)
    refine z_icmp_gt (tgt := 74) hx hb (by omega) (by omega) dX0_isRight_48 (by decide) (fun c6 => ?_) (fun c6 => ?_)
    · refine z_iconst hx hb dX0_isRight_74 ?_
      exact s_zret hx hb hr hlocks ((bI_f (fun hk => by have k1 := hk.1; have k2 := hk.2.1; have k3 := hk.2.2; omega)).symm) dX0_isRight_75
    · refine lv_aload_n hx hb dX0_isRight_51 rfl (lv_at hl 1 rfl) ?_
      refine c_call (n := 0) (As := []) (rest := []) hx hb hml hts hown hK hNW hW (va_recv hK (cw21 hW (b := b) (q := q) (by omega) (by omega) (by omega)) (ci := 5) (q0 := 0) rfl rfl) (c5_upper l D cT ad τ ρ hI b (by omega) q (by omega) (by omega)) gX0_isRight_X5_upper rfl rfl rfl (by decide +kernel) ⟨by decide, by decide⟩ rfl hl.1 rfl (Nat.le_of_ble_eq_true rfl) ⟨Nat.zero_le _, Nat.zero_le _⟩ dX0_isRight_52 ?_
      have r7 := up_r hI (16 * b + q)
      refine lv_aload_n hx hb dX0_isRight_55 rfl (lv_at hl 1 rfl) ?_
      refine y_get (C := RX5) (T := TX5) (N := 5) (ref := "CoreShed$Place") (ci := 5) hx hb hts hinX5 hown hK (cw21 hW (b := b) (q := q) (by omega) (by omega) (by omega)) rfl 1 (by decide) (hts _ (by decide +kernel)) rfl (v := .int (iI (τ 21 (16 * b + q)))) rfl dX0_isRight_56 ?_
      refine z_isub hx hb dX0_isRight_59 ?_
      refine z_mabs (own := RX0) hx hb (hml.trans hl.1.symm) hown (hts (.methodLink RX0 47 Lib.Math.abs.name) (by decide +kernel)) (hts (.static Lib.Math.abs.name) (by decide +kernel)) (hts (.initialized "java/lang/Math") (by decide +kernel)) (hts (.code Lib.Math.abs.name Lib.Math.abs.code 1 (some .int)) (by decide +kernel)) (by decide) (Nat.le_of_ble_eq_true rfl) (Nat.zero_le _) (Nat.zero_le _) (by omega) dX0_isRight_60 ?_
      refine z_top (show abI ((upO τ (16 * b + q)) - (τ 21 (16 * b + q))) = farI (upO τ (16 * b + q)) (τ 21 (16 * b + q)) from by unfold abI farI; split <;> split <;> omega) ?_
      refine lv_aload_n hx hb dX0_isRight_63 rfl (lv_at hl 1 rfl) ?_
      refine y_get (C := RX5) (T := TX5) (N := 5) (ref := "CoreShed$Place") (ci := 5) hx hb hts hinX5 hown hK (cw21 hW (b := b) (q := q) (by omega) (by omega) (by omega)) rfl 2 (by decide) (hts _ (by decide +kernel)) rfl (v := .int (iI (τ 22 (16 * b + q)))) rfl dX0_isRight_64 ?_
      refine z_icmp_gt (tgt := 74) hx hb (by omega) (by omega) dX0_isRight_67 (by decide) (fun c8 => ?_) (fun c8 => ?_)
      · refine z_iconst hx hb dX0_isRight_74 ?_
        exact s_zret hx hb hr hlocks ((bI_f (fun hk => by have k1 := hk.1; have k2 := hk.2.1; have k3 := hk.2.2; omega)).symm) dX0_isRight_75
      · refine z_iconst hx hb dX0_isRight_70 ?_
        refine lv_goto (tgt := 75) hx hb dX0_isRight_71 (by decide) ?_
        exact s_zret hx hb hr hlocks ((bI_t (by refine ⟨fun _ => ?_, fun _ => ?_, fun _ => ?_⟩ <;> omega)).symm) dX0_isRight_75
  · refine z_tabIn (tgt := 76) (off := 72) (k := 1) hx hb (by omega) dX0_isRight_4 (by omega) (by omega) (by decide +kernel) (by decide) ?_
    refine lv_aload_n hx hb dX0_isRight_76 rfl (lv_at hl 1 rfl) ?_
    refine c_call (n := 0) (As := []) (rest := []) hx hb hml hts hown hK hNW hW (va_recv hK (cw21 hW (b := b) (q := q) (by omega) (by omega) (by omega)) (ci := 5) (q0 := 0) rfl rfl) (c5_upper l D cT ad τ ρ hI b (by omega) q (by omega) (by omega)) gX0_isRight_X5_upper rfl rfl rfl (by decide +kernel) ⟨by decide, by decide⟩ rfl hl.1 rfl (Nat.le_of_ble_eq_true rfl) ⟨Nat.zero_le _, Nat.zero_le _⟩ dX0_isRight_77 ?_
    have r9 := up_r hI (16 * b + q)
    refine lv_iload_n hx hb dX0_isRight_80 rfl (lv_at hl 2 rfl) ?_
    refine z_icmp_gt (tgt := 88) hx hb (by omega) (by omega) dX0_isRight_81 (by decide) (fun c10 => ?_) (fun c10 => ?_)
    · refine z_iconst hx hb dX0_isRight_88 ?_
      exact s_zret hx hb hr hlocks ((bI_f (fun hk => by have k1 := hk.1; have k2 := hk.2.1; have k3 := hk.2.2; omega)).symm) dX0_isRight_89
    · refine z_iconst hx hb dX0_isRight_84 ?_
      refine lv_goto (tgt := 89) hx hb dX0_isRight_85 (by decide) ?_
      exact s_zret hx hb hr hlocks ((bI_t (by refine ⟨fun _ => ?_, fun _ => ?_, fun _ => ?_⟩ <;> omega)).symm) dX0_isRight_89
  · refine z_tabIn (tgt := 90) (off := 86) (k := 2) hx hb (by omega) dX0_isRight_4 (by omega) (by omega) (by decide +kernel) (by decide) ?_
    have hw2 := hw (by omega)
    have hl9 := up_r hI (16 * b + (τ 21 (16 * b + q)).toNat)
    refine lv_aload_n hx hb dX0_isRight_90 rfl (lv_at hl 1 rfl) ?_
    refine c_call (n := 0) (As := []) (rest := []) hx hb hml hts hown hK hNW hW (va_recv hK (cw21 hW (b := b) (q := q) (by omega) (by omega) (by omega)) (ci := 5) (q0 := 0) rfl rfl) (c5_upper l D cT ad τ ρ hI b (by omega) q (by omega) (by omega)) gX0_isRight_X5_upper rfl rfl rfl (by decide +kernel) ⟨by decide, by decide⟩ rfl hl.1 rfl (Nat.le_of_ble_eq_true rfl) ⟨Nat.zero_le _, Nat.zero_le _⟩ dX0_isRight_91 ?_
    have r11 := up_r hI (16 * b + q)
    refine lv_aload_n hx hb dX0_isRight_94 rfl (lv_at hl 0 rfl) ?_
    refine y_get (C := RX0) (T := TX0) (N := 2) (ref := "CoreShed$Batch") (ci := 0) hx hb hts hinX0 hown hK (cw19 hW (i := b) (by omega)) rfl 0 (by decide) (hts _ (by decide +kernel)) rfl (v := .ref (ad 20 b)) rfl dX0_isRight_95 ?_
    refine lv_aload_n hx hb dX0_isRight_98 rfl (lv_at hl 1 rfl) ?_
    refine y_get (C := RX5) (T := TX5) (N := 5) (ref := "CoreShed$Place") (ci := 5) hx hb hts hinX5 hown hK (cw21 hW (b := b) (q := q) (by omega) (by omega) (by omega)) rfl 1 (by decide) (hts _ (by decide +kernel)) rfl (v := .int (iI (τ 21 (16 * b + q)))) rfl dX0_isRight_99 ?_
    have r12 : (0 : Int) ≤ τ 21 (16 * b + q) ∧ τ 21 (16 * b + q) ≤ 100000 := hI 21 (16 * b + q)
    refine y_aaldS (ty := .object "CoreShed$Place") (j := (τ 21 (16 * b + q)).toNat) (q := ad 21 (16 * b + ((τ 21 (16 * b + q)).toNat))) hx hb hK 5 rfl (cw20 hW (i := b) (by omega)) rfl (by omega) (by omega) (by decide) (if_pos (by omega)) dX0_isRight_102 ?_
    refine c_call (n := 0) (As := []) (rest := [.int (iI (upO τ (16 * b + q)))]) hx hb hml hts hown hK hNW hW (va_recv hK (cw21 hW (b := b) (q := (τ 21 (16 * b + q)).toNat) (by omega) (by omega) (by omega)) (ci := 5) (q0 := 0) rfl rfl) (c5_upper l D cT ad τ ρ hI b (by omega) ((τ 21 (16 * b + q)).toNat) (by omega) (by omega)) gX0_isRight_X5_upper rfl rfl rfl (by decide +kernel) ⟨by decide, by decide⟩ rfl hl.1 rfl (Nat.le_of_ble_eq_true rfl) ⟨Nat.zero_le _, Nat.zero_le _⟩ dX0_isRight_103 ?_
    have r13 := up_r hI (16 * b + ((τ 21 (16 * b + q)).toNat))
    refine lv_iload_n hx hb dX0_isRight_106 rfl (lv_at hl 3 rfl) ?_
    refine s_call (n := 3) (As := [.int (iI (upO τ (16 * b + q))), .int (iI (upO τ (16 * b + ((τ 21 (16 * b + q)).toNat)))), .int (iI (τ 25 1))]) (rest := []) hx hb hml hts hown (c0_isNear l (upO τ (16 * b + q)) (by omega) (upO τ (16 * b + ((τ 21 (16 * b + q)).toNat))) (by omega) (τ 25 1) (by omega) (by omega) (by omega) (by omega)) gX0_isRight_X0_isNear rfl rfl rfl (by decide +kernel) ⟨by decide, by decide⟩ rfl hl.1 rfl (Nat.le_of_ble_eq_true rfl) ⟨Nat.zero_le _, Nat.zero_le _⟩ dX0_isRight_107 ?_
    exact s_zret hx hb hr hlocks (bI_c ⟨fun hk => ⟨fun _ => by omega, fun _ => by omega, fun _ => hk⟩, fun hk => hk.2.2 (by omega)⟩) dX0_isRight_110
  · refine z_tabOut (tgt := 111) hx hb (by omega) dX0_isRight_4 k2 (by decide) ?_
    refine z_iconst hx hb dX0_isRight_111 ?_
    exact s_zret hx hb hr hlocks ((bI_t (by refine ⟨fun _ => ?_, fun _ => ?_, fun _ => ?_⟩ <;> omega)).symm) dX0_isRight_112
set_option maxHeartbeats 4000000 in
set_option maxRecDepth 100000 in
theorem c0_firstFault (l : Launch) (D : va_G) (cT : Nat → ClassId) (ad : Adr) (τ ρ : Tau) (hI : Rng τ) (b : Nat) (hlb : (b : Int) < τ 18 0) (hw : WhP τ b) : Met l yX0_firstFault wsX0_firstFault { frames := 3, cells := 0, slots := 0, locals := 66 } (cPc D cT ad τ ρ [.ref (ad 19 b), .int (iI (τ 25 0)), .int (iI (τ 25 1))]) (rS (ftO τ b)) 0 0 (NoA) := by
  refine c_start (by decide) rfl (Nat.le_of_ble_eq_true rfl) ?_
  intro p e s m below meth c hx hb hr hlocks hml hts hown hW hK hNW ls hl
  have hinX0 : ∀ w ∈ wsX00, w ∈ wsX0_firstFault := by decide +kernel
  have hl : lv_has ls 4 [(0, .ref (ad 19 b)), (1, .int (iI (τ 25 0))), (2, .int (iI (τ 25 1)))] := hl
  obtain ⟨N, hN⟩ : ∃ N : Nat, τ 19 b = N := ⟨(τ 19 b).toNat, by have : (0 : Int) ≤ τ 19 b ∧ τ 19 b ≤ 16 := hI 19 b; omega⟩
  have hN2 : (τ 19 b).toNat = N := by omega
  have hN3 : N ≤ 16 := by have : (0 : Int) ≤ τ 19 b ∧ τ 19 b ≤ 16 := hI 19 b; omega
  refine z_iconst hx hb dX0_firstFault_0 ?_
  refine lv_istore_n (lv' := [(3, .int (iI (0))), (0, .ref (ad 19 b)), (1, .int (iI (τ 25 0))), (2, .int (iI (τ 25 1)))]) hx hb dX0_firstFault_1 rfl hl (by decide) rfl (fun ls hl => ?_)
  have lp2 : ∀ (n2 k : Nat) (x3 : Int), x3 = (k : Int) → k ≤ N → N + 1 ≤ k + n2 → (∀ j, j < k → (fun q => !gdB τ b q) j = false) → ∀ ls : Array Slot, lv_has ls 4 [(3, .int (iI (x3))), (0, .ref (ad 19 b)), (1, .int (iI (τ 25 0))), (2, .int (iI (τ 25 1)))] → W p l e { frames := 3, cells := 0, slots := 0, locals := 66 } s m [.ref (ad 19 b), .int (iI (τ 25 0)), .int (iI (τ 25 1))].toArray below meth c s.heap [] 0 0 (MQ below (rS (ftO τ b)) [.ref (ad 19 b), .int (iI (τ 25 0)), .int (iI (τ 25 1))].toArray s 0 0 (NoA)) (F0 m 2 ls []) := by
    intro n2
    induction n2 with
    | zero => intro k x3  ex3 hk1 hk2; exact absurd hk2 (by omega)
    | succ n2 ih2 =>
      intro k x3  ex3 hk1 hk2 hn ls hl
      subst ex3
      refine lv_iload_n hx hb dX0_firstFault_2 rfl (lv_at hl 0 rfl) ?_
      refine lv_aload_n hx hb dX0_firstFault_3 rfl (lv_at hl 1 rfl) ?_
      refine y_get (C := RX0) (T := TX0) (N := 2) (ref := "CoreShed$Batch") (ci := 0) hx hb hts hinX0 hown hK (cw19 hW (i := b) (by omega)) rfl 1 (by decide) (hts _ (by decide +kernel)) rfl (v := .int (iI (τ 19 b))) rfl dX0_firstFault_4 ?_
      have r1 : (0 : Int) ≤ τ 19 b ∧ τ 19 b ≤ 16 := hI 19 b
      refine z_icmp_ge (tgt := 33) hx hb (by omega) (by omega) dX0_firstFault_7 (by decide) (fun c2 => ?_) (fun c2 => ?_)
      · refine z_iconst hx hb dX0_firstFault_33 ?_
        exact s_iret hx hb hr hlocks (by unfold ftO; rw [hN2, show N = k by omega]; exact (ff_no hn).symm) dX0_firstFault_34
      · refine lv_aload_n hx hb dX0_firstFault_10 rfl (lv_at hl 1 rfl) ?_
        refine lv_aload_n hx hb dX0_firstFault_11 rfl (lv_at hl 1 rfl) ?_
        refine y_get (C := RX0) (T := TX0) (N := 2) (ref := "CoreShed$Batch") (ci := 0) hx hb hts hinX0 hown hK (cw19 hW (i := b) (by omega)) rfl 0 (by decide) (hts _ (by decide +kernel)) rfl (v := .ref (ad 20 b)) rfl dX0_firstFault_12 ?_
        refine lv_iload_n hx hb dX0_firstFault_15 rfl (lv_at hl 0 rfl) ?_
        refine y_aaldS (ty := .object "CoreShed$Place") (j := k) (q := ad 21 (16 * b + k)) hx hb hK 5 rfl (cw20 hW (i := b) (by omega)) rfl (by omega) (by omega) (by decide) (if_pos (by omega)) dX0_firstFault_16 ?_
        refine lv_iload_n hx hb dX0_firstFault_17 rfl (lv_at hl 2 rfl) ?_
        refine lv_iload_n hx hb dX0_firstFault_18 rfl (lv_at hl 3 rfl) ?_
        refine c_call (n := 3) (As := [.ref (ad 21 (16 * b + k)), .int (iI (τ 25 0)), .int (iI (τ 25 1))]) (rest := []) hx hb hml hts hown hK hNW hW (va_recv hK (cw19 hW (i := b) (by omega)) (ci := 0) (q0 := 0) rfl rfl) (c0_isRight l D cT ad τ ρ hI b (by omega) k (by omega) (by omega) (fun h3 => hw k (by omega) (by omega) h3)) gX0_firstFault_X0_isRight rfl rfl rfl (by decide +kernel) ⟨by decide, by decide⟩ rfl hl.1 rfl (Nat.le_of_ble_eq_true rfl) ⟨Nat.zero_le _, Nat.zero_le _⟩ dX0_firstFault_19 ?_
        refine z_if_neB (tgt := 27) hx hb dX0_firstFault_22 (by decide) (fun c3 => ?_) (fun c3 => ?_)
        · refine z_iinc (k := 0) (lv' := [(3, .int (iI ((k : Int) + 1))), (0, .ref (ad 19 b)), (1, .int (iI (τ 25 0))), (2, .int (iI (τ 25 1)))]) hx hb dX0_firstFault_27 hl rfl (by decide) rfl (fun ls hl => ?_)
          refine lv_goto (tgt := 2) hx hb dX0_firstFault_30 (by decide) ?_
          exact ih2 (k + 1) ((k : Int) + 1)  (by omega) (by omega) (by omega) (fl_s hn (by show (!gdB τ b k) = false; unfold gdB; rw [decide_eq_true c3]; rfl)) ls (lv_sub hl [0, 1, 2, 3] rfl)
        · refine lv_iload_n hx hb dX0_firstFault_25 rfl (lv_at hl 0 rfl) ?_
          exact s_iret hx hb hr hlocks (by unfold ftO; rw [hN2]; exact (ff_at hn (by show (!gdB τ b k) = true; unfold gdB; rw [decide_eq_false c3]; rfl) (by omega)).symm) dX0_firstFault_26
  exact lp2 (N + 1) 0 0  (by omega) (by omega) (by omega) fl_0 ls (lv_sub hl [0, 1, 2, 3] rfl)
set_option maxHeartbeats 4000000 in
set_option maxRecDepth 100000 in
theorem c0_isSound (l : Launch) (D : va_G) (cT : Nat → ClassId) (ad : Adr) (τ ρ : Tau) (hI : Rng τ) (b : Nat) (hlb : (b : Int) < τ 18 0) (hw : WhP τ b) : Met l yX0_isSound wsX0_isSound { frames := 4, cells := 0, slots := 0, locals := 89 } (cPc D cT ad τ ρ [.ref (ad 19 b), .int (iI (τ 25 0)), .int (iI (τ 25 1))]) (rS (bI (snB τ b = true))) 0 0 (NoA) := by
  refine c_start (by decide) rfl (Nat.le_of_ble_eq_true rfl) ?_
  intro p e s m below meth c hx hb hr hlocks hml hts hown hW hK hNW ls hl
  have hl : lv_has ls 3 [(0, .ref (ad 19 b)), (1, .int (iI (τ 25 0))), (2, .int (iI (τ 25 1)))] := hl
  refine lv_aload_n hx hb dX0_isSound_0 rfl (lv_at hl 0 rfl) ?_
  refine c_call (n := 0) (As := []) (rest := []) hx hb hml hts hown hK hNW hW (va_recv hK (cw19 hW (i := b) (by omega)) (ci := 0) (q0 := 0) rfl rfl) (c0_isComplete l D cT ad τ ρ hI b (by omega)) gX0_isSound_X0_isComplete rfl rfl rfl (by decide +kernel) ⟨by decide, by decide⟩ rfl hl.1 rfl (Nat.le_of_ble_eq_true rfl) ⟨Nat.zero_le _, Nat.zero_le _⟩ dX0_isSound_1 ?_
  refine z_if_eqB (tgt := 21) hx hb dX0_isSound_4 (by decide) (fun c1 => ?_) (fun c1 => ?_)
  · refine z_iconst hx hb dX0_isSound_21 ?_
    exact s_zret hx hb hr hlocks ((bI_f (by unfold snB; simp [c1, hx])).symm) dX0_isSound_22
  · refine lv_aload_n hx hb dX0_isSound_7 rfl (lv_at hl 0 rfl) ?_
    refine lv_iload_n hx hb dX0_isSound_8 rfl (lv_at hl 1 rfl) ?_
    refine lv_iload_n hx hb dX0_isSound_9 rfl (lv_at hl 2 rfl) ?_
    refine c_call (n := 2) (As := [.int (iI (τ 25 0)), .int (iI (τ 25 1))]) (rest := []) hx hb hml hts hown hK hNW hW (va_recv hK (cw19 hW (i := b) (by omega)) (ci := 0) (q0 := 0) rfl rfl) (c0_firstFault l D cT ad τ ρ hI b (by omega) hw) gX0_isSound_X0_firstFault rfl rfl rfl (by decide +kernel) ⟨by decide, by decide⟩ rfl hl.1 rfl (Nat.le_of_ble_eq_true rfl) ⟨Nat.zero_le _, Nat.zero_le _⟩ dX0_isSound_10 ?_
    have r2 := ft_r hI b
    refine z_iconst hx hb dX0_isSound_13 ?_
    refine z_icmp_ne (tgt := 21) hx hb (by omega) (by omega) dX0_isSound_14 (by decide) (fun c3 => ?_) (fun c3 => ?_)
    · refine z_iconst hx hb dX0_isSound_21 ?_
      exact s_zret hx hb hr hlocks ((bI_f (by unfold snB; simp [c3, c1])).symm) dX0_isSound_22
    · refine z_iconst hx hb dX0_isSound_17 ?_
      refine lv_goto (tgt := 22) hx hb dX0_isSound_18 (by decide) ?_
      exact s_zret hx hb hr hlocks ((bI_t (by unfold snB; rw [c1, decide_eq_true c3]; rfl)).symm) dX0_isSound_22
set_option maxHeartbeats 4000000 in
set_option maxRecDepth 100000 in
theorem c0_digestOnto (l : Launch) (D : va_G) (cT : Nat → ClassId) (ad : Adr) (τ ρ : Tau) (hI : Rng τ) (b : Nat) (hlb : (b : Int) < τ 18 0) (a : Int) (hz : ∀ q, τ 23 q = 0 → τ 24 q = 0) : Met l yX0_digestOnto wsX0_digestOnto { frames := 1, cells := 0, slots := 0, locals := 23 } (cPc D cT ad τ ρ [.ref (ad 19 b), .long (lL (a))]) (rL (dgBat τ b a)) 0 0 (NoA) := by
  refine c_start (by decide) rfl (Nat.le_of_ble_eq_true rfl) ?_
  intro p e s m below meth c hx hb hr hlocks hml hts hown hW hK hNW ls hl
  have hinX0 : ∀ w ∈ wsX00, w ∈ wsX0_digestOnto := by decide +kernel
  have hl : lv_has ls 7 [(0, .ref (ad 19 b)), (1, .long (lL (a)))] := hl
  obtain ⟨N, hN⟩ : ∃ N : Nat, τ 19 b = N := ⟨(τ 19 b).toNat, by have : (0 : Int) ≤ τ 19 b ∧ τ 19 b ≤ 16 := hI 19 b; omega⟩
  have hN2 : (τ 19 b).toNat = N := by omega
  have hN3 : N ≤ 16 := by have : (0 : Int) ≤ τ 19 b ∧ τ 19 b ≤ 16 := hI 19 b; omega
  refine lv_lload_n hx hb dX0_digestOnto_0 rfl (lv_at hl 1 rfl) ?_
  refine lv_lstore_n (lv' := [(3, .long (lL (a))), (0, .ref (ad 19 b)), (1, .long (lL (a)))]) hx hb dX0_digestOnto_1 rfl hl (by decide) rfl (fun ls hl => ?_)
  refine z_iconst hx hb dX0_digestOnto_2 ?_
  refine lv_istore (lv' := [(5, .int (iI (0))), (3, .long (lL (a))), (0, .ref (ad 19 b)), (1, .long (lL (a)))]) hx hb dX0_digestOnto_3 hl (by decide) rfl (fun ls hl => ?_)
  have lp5 : ∀ (n5 k : Nat) (x3 x5 : Int), x3 = fo (fun k d => dgPl τ (16 * b + k) d) a k → x5 = (k : Int) → k ≤ N → N + 1 ≤ k + n5 → ∀ ls : Array Slot, lv_has ls 7 [(3, .long (lL (x3))), (5, .int (iI (x5))), (0, .ref (ad 19 b))] → W p l e { frames := 1, cells := 0, slots := 0, locals := 23 } s m [.ref (ad 19 b), .long (lL (a))].toArray below meth c s.heap [] 0 0 (MQ below (rL (dgBat τ b a)) [.ref (ad 19 b), .long (lL (a))].toArray s 0 0 (NoA)) (F0 m 5 ls []) := by
    intro n5
    induction n5 with
    | zero => intro k x3 x5  ex3 ex5 hk1 hk2; exact absurd hk2 (by omega)
    | succ n5 ih5 =>
      intro k x3 x5  ex3 ex5 hk1 hk2  ls hl
      subst ex3
      subst ex5
      refine lv_iload hx hb dX0_digestOnto_5 (lv_at hl 1 rfl) ?_
      refine lv_aload_n hx hb dX0_digestOnto_7 rfl (lv_at hl 2 rfl) ?_
      refine y_get (C := RX0) (T := TX0) (N := 2) (ref := "CoreShed$Batch") (ci := 0) hx hb hts hinX0 hown hK (cw19 hW (i := b) (by omega)) rfl 1 (by decide) (hts _ (by decide +kernel)) rfl (v := .int (iI (τ 19 b))) rfl dX0_digestOnto_8 ?_
      have r1 : (0 : Int) ≤ τ 19 b ∧ τ 19 b ≤ 16 := hI 19 b
      refine z_icmp_ge (tgt := 53) hx hb (by omega) (by omega) dX0_digestOnto_11 (by decide) (fun c2 => ?_) (fun c2 => ?_)
      · refine lv_lload_n hx hb dX0_digestOnto_53 rfl (lv_at hl 0 rfl) ?_
        exact s_lret hx hb hr hlocks (by unfold dgBat; rw [hN2, show N = k by omega]) dX0_digestOnto_54
      · refine z_iconst hx hb dX0_digestOnto_14 ?_
        refine lv_istore (lv' := [(6, .int (iI (0))), (3, .long (lL (fo (fun k d => dgPl τ (16 * b + k) d) a k))), (5, .int (iI ((k : Int)))), (0, .ref (ad 19 b))]) hx hb dX0_digestOnto_15 hl (by decide) rfl (fun ls hl => ?_)
        have lp17 : ∀ (n17 i : Nat) (x3 x6 : Int), x3 = fo (fun n d => 31 * d + abO τ (16 * b + k) n) (fo (fun k d => dgPl τ (16 * b + k) d) a k) i → x6 = (i : Int) → i ≤ 5 → 5 + 1 ≤ i + n17 → ∀ ls : Array Slot, lv_has ls 7 [(3, .long (lL (x3))), (6, .int (iI (x6))), (5, .int (iI ((k : Int)))), (0, .ref (ad 19 b))] → W p l e { frames := 1, cells := 0, slots := 0, locals := 23 } s m [.ref (ad 19 b), .long (lL (a))].toArray below meth c s.heap [] 0 0 (MQ below (rL (dgBat τ b a)) [.ref (ad 19 b), .long (lL (a))].toArray s 0 0 (NoA)) (F0 m 17 ls []) := by
          intro n17
          induction n17 with
          | zero => intro i x3 x6  ex3 ex6 hk1 hk2; exact absurd hk2 (by omega)
          | succ n17 ih17 =>
            intro i x3 x6  ex3 ex6 hk1 hk2  ls hl
            subst ex3
            subst ex6
            refine lv_iload hx hb dX0_digestOnto_17 (lv_at hl 1 rfl) ?_
            refine z_iconst hx hb dX0_digestOnto_19 ?_
            refine z_icmp_gt (tgt := 47) hx hb (by omega) (by omega) dX0_digestOnto_20 (by decide) (fun c3 => ?_) (fun c3 => ?_)
            · refine z_iinc (k := 2) (lv' := [(5, .int (iI ((k : Int) + 1))), (3, .long (lL (fo (fun n d => 31 * d + abO τ (16 * b + k) n) (fo (fun k d => dgPl τ (16 * b + k) d) a k) i))), (6, .int (iI ((i : Int)))), (0, .ref (ad 19 b))]) hx hb dX0_digestOnto_47 hl rfl (by decide) rfl (fun ls hl => ?_)
              refine lv_goto (tgt := 5) hx hb dX0_digestOnto_50 (by decide) ?_
              exact ih5 (k + 1) (fo (fun n d => 31 * d + abO τ (16 * b + k) n) (fo (fun k d => dgPl τ (16 * b + k) d) a k) i) ((k : Int) + 1)  (by rw [show i = 5 by omega]; rfl) (by omega) (by omega) (by omega)  ls (lv_sub hl [1, 0, 3] rfl)
            · refine lv_lload_n hx hb dX0_digestOnto_23 rfl (lv_at hl 0 rfl) ?_
              refine lv_aload_n hx hb dX0_digestOnto_24 rfl (lv_at hl 3 rfl) ?_
              refine y_get (C := RX0) (T := TX0) (N := 2) (ref := "CoreShed$Batch") (ci := 0) hx hb hts hinX0 hown hK (cw19 hW (i := b) (by omega)) rfl 0 (by decide) (hts _ (by decide +kernel)) rfl (v := .ref (ad 20 b)) rfl dX0_digestOnto_25 ?_
              refine lv_iload hx hb dX0_digestOnto_28 (lv_at hl 2 rfl) ?_
              refine y_aaldS (ty := .object "CoreShed$Place") (j := k) (q := ad 21 (16 * b + k)) hx hb hK 5 rfl (cw20 hW (i := b) (by omega)) rfl (by omega) (by omega) (by decide) (if_pos (by omega)) dX0_digestOnto_30 ?_
              refine lv_iload hx hb dX0_digestOnto_31 (lv_at hl 1 rfl) ?_
              refine c_call (n := 1) (As := [.int (iI ((i : Int)))]) (rest := [.long (lL (fo (fun n d => 31 * d + abO τ (16 * b + k) n) (fo (fun k d => dgPl τ (16 * b + k) d) a k) i))]) hx hb hml hts hown hK hNW hW (va_recv hK (cw21 hW (b := b) (q := k) (by omega) (by omega) (by omega)) (ci := 5) (q0 := 0) rfl rfl) (c5_told l D cT ad τ ρ hI b (by omega) k (by omega) (i : Int) (by omega) (by omega) (by omega) (hz _)) gX0_digestOnto_X5_told rfl rfl rfl (by decide +kernel) ⟨by decide, by decide⟩ rfl hl.1 rfl (Nat.le_of_ble_eq_true rfl) ⟨Nat.zero_le _, Nat.zero_le _⟩ dX0_digestOnto_33 ?_
              have r4 := ab_r hI (16 * b + k) (i : Int)
              refine z_i2l hx hb (by omega) dX0_digestOnto_36 ?_
              refine s_callLN (n := 2) (As := [.long (lL (fo (fun n d => 31 * d + abO τ (16 * b + k) n) (fo (fun k d => dgPl τ (16 * b + k) d) a k) i)), .long (lL (abO τ (16 * b + k) (i : Int)))]) (rest := []) hx hb hml hts hown (c7_mixed l (fo (fun n d => 31 * d + abO τ (16 * b + k) n) (fo (fun k d => dgPl τ (16 * b + k) d) a k) i) (abO τ (16 * b + k) (i : Int))) gX0_digestOnto_X7_mixed_n77 rfl rfl rfl hNW.2.2.2.2.1 (hts (.initialized RX7) (by decide +kernel)) (hts (.static yX7_mixed) (by decide +kernel)) (by decide +kernel) ⟨by decide, by decide⟩ rfl hl.1 rfl (Nat.le_of_ble_eq_true rfl) ⟨Nat.zero_le _, Nat.zero_le _⟩ dX0_digestOnto_37 ?_
              refine lv_lstore_n (lv' := [(3, .long (lL (31 * (fo (fun n d => 31 * d + abO τ (16 * b + k) n) (fo (fun k d => dgPl τ (16 * b + k) d) a k) i) + (abO τ (16 * b + k) (i : Int))))), (6, .int (iI ((i : Int)))), (5, .int (iI ((k : Int)))), (0, .ref (ad 19 b))]) hx hb dX0_digestOnto_40 rfl hl (by decide) rfl (fun ls hl => ?_)
              refine z_iinc (k := 1) (lv' := [(6, .int (iI ((i : Int) + 1))), (3, .long (lL (31 * (fo (fun n d => 31 * d + abO τ (16 * b + k) n) (fo (fun k d => dgPl τ (16 * b + k) d) a k) i) + (abO τ (16 * b + k) (i : Int))))), (5, .int (iI ((k : Int)))), (0, .ref (ad 19 b))]) hx hb dX0_digestOnto_41 hl rfl (by decide) rfl (fun ls hl => ?_)
              refine lv_goto (tgt := 17) hx hb dX0_digestOnto_44 (by decide) ?_
              exact ih17 (i + 1) (31 * (fo (fun n d => 31 * d + abO τ (16 * b + k) n) (fo (fun k d => dgPl τ (16 * b + k) d) a k) i) + (abO τ (16 * b + k) (i : Int))) ((i : Int) + 1)  rfl (by omega) (by omega) (by omega)  ls (lv_sub hl [1, 0, 2, 3] rfl)
        exact lp17 (5 + 1) 0 (fo (fun k d => dgPl τ (16 * b + k) d) a k) 0  rfl (by omega) (by omega) (by omega)  ls (lv_sub hl [1, 0, 2, 3] rfl)
  exact lp5 (N + 1) 0 a 0  rfl (by omega) (by omega) (by omega)  ls (lv_sub hl [1, 0, 2] rfl)
set_option maxHeartbeats 4000000 in
set_option maxRecDepth 100000 in
theorem c7_holeNamed_some (l : Launch) (D : va_G) (cT : Nat → ClassId) (ad : Adr) (τ ρ : Tau) (hI : Rng τ) (h : Nat) (zh : Int) (hzh : zh = (h : Int)) (hh : (h : Int) < τ 0 0) : Met l yX7_holeNamed wsX7_holeNamed { frames := 0, cells := 0, slots := 0, locals := 0 } (cPc D cT ad τ ρ [.ref (ad 0 0), .int (iI zh)]) (rV (.ref (ad 11 h))) 0 0 (NoA) := by
  subst hzh
  refine c_start (by decide) rfl (Nat.le_of_ble_eq_true rfl) ?_
  intro p e s m below meth c hx hb hr hlocks hml hts hown hW hK hNW ls hl
  have hinX7 : ∀ w ∈ wsX70, w ∈ wsX7_holeNamed := by decide +kernel
  have hl : lv_has ls 2 [(0, .ref (ad 0 0)), (1, .int (iI ((h : Int))))] := hl
  have hf0 : (0 : Int) ≤ τ 0 0 ∧ τ 0 0 ≤ 4 := hI 0 0
  refine lv_iload_n hx hb dX7_holeNamed_0 rfl (lv_at hl 1 rfl) ?_
  refine z_if_lt (tgt := 21) hx hb (by omega) dX7_holeNamed_1 (by decide) (fun c1 => ?_) (fun c1 => ?_)
  · exfalso; omega
  · refine lv_iload_n hx hb dX7_holeNamed_4 rfl (lv_at hl 1 rfl) ?_
    refine lv_aload_n hx hb dX7_holeNamed_5 rfl (lv_at hl 0 rfl) ?_
    refine y_get (C := RX7) (T := TX7) (N := 11) (ref := "CoreShed") (ci := 7) hx hb hts hinX7 hown hK (cw0 hW) rfl 6 (by decide) (hts _ (by decide +kernel)) rfl (v := .int (iI (τ 0 0))) rfl dX7_holeNamed_6 ?_
    have r2 : (0 : Int) ≤ τ 0 0 ∧ τ 0 0 ≤ 4 := hI 0 0
    refine z_icmp_ge (tgt := 21) hx hb (by omega) (by omega) dX7_holeNamed_9 (by decide) (fun c3 => ?_) (fun c3 => ?_)
    · exfalso; omega
    · refine lv_aload_n hx hb dX7_holeNamed_12 rfl (lv_at hl 0 rfl) ?_
      refine y_get (C := RX7) (T := TX7) (N := 11) (ref := "CoreShed") (ci := 7) hx hb hts hinX7 hown hK (cw0 hW) rfl 0 (by decide) (hts _ (by decide +kernel)) rfl (v := .ref (ad 1 0)) rfl dX7_holeNamed_13 ?_
      refine lv_iload_n hx hb dX7_holeNamed_16 rfl (lv_at hl 1 rfl) ?_
      refine y_aaldS (ty := .object "CoreShed$Hole") (j := h) (q := ad 11 h) hx hb hK 2 rfl (cw1 hW) rfl (by omega) (by omega) (by decide) (if_pos (by omega)) dX7_holeNamed_17 ?_
      refine lv_goto (tgt := 22) hx hb dX7_holeNamed_18 (by decide) ?_
      exact s_aretE hx hb hr hlocks (Or.inr ⟨_, rfl⟩) (rfl) dX7_holeNamed_22
set_option maxHeartbeats 4000000 in
set_option maxRecDepth 100000 in
theorem c7_holeNamed_none (l : Launch) (D : va_G) (cT : Nat → ClassId) (ad : Adr) (τ ρ : Tau) (hI : Rng τ) (a : Int) (h_a : I32 a) (hh : ¬ (0 ≤ a ∧ a < τ 0 0)) : Met l yX7_holeNamed wsX7_holeNamed { frames := 0, cells := 0, slots := 0, locals := 0 } (cPc D cT ad τ ρ [.ref (ad 0 0), .int (iI (a))]) (rV (.null)) 0 0 (NoA) := by
  refine c_start (by decide) rfl (Nat.le_of_ble_eq_true rfl) ?_
  intro p e s m below meth c hx hb hr hlocks hml hts hown hW hK hNW ls hl
  have hinX7 : ∀ w ∈ wsX70, w ∈ wsX7_holeNamed := by decide +kernel
  have hl : lv_has ls 2 [(0, .ref (ad 0 0)), (1, .int (iI (a)))] := hl
  refine lv_iload_n hx hb dX7_holeNamed_0 rfl (lv_at hl 1 rfl) ?_
  refine z_if_lt (tgt := 21) hx hb (by omega) dX7_holeNamed_1 (by decide) (fun c1 => ?_) (fun c1 => ?_)
  · refine lv_null hx hb dX7_holeNamed_21 ?_
    exact s_aretE hx hb hr hlocks (Or.inl rfl) (rfl) dX7_holeNamed_22
  · refine lv_iload_n hx hb dX7_holeNamed_4 rfl (lv_at hl 1 rfl) ?_
    refine lv_aload_n hx hb dX7_holeNamed_5 rfl (lv_at hl 0 rfl) ?_
    refine y_get (C := RX7) (T := TX7) (N := 11) (ref := "CoreShed") (ci := 7) hx hb hts hinX7 hown hK (cw0 hW) rfl 6 (by decide) (hts _ (by decide +kernel)) rfl (v := .int (iI (τ 0 0))) rfl dX7_holeNamed_6 ?_
    have r2 : (0 : Int) ≤ τ 0 0 ∧ τ 0 0 ≤ 4 := hI 0 0
    refine z_icmp_ge (tgt := 21) hx hb (by omega) (by omega) dX7_holeNamed_9 (by decide) (fun c3 => ?_) (fun c3 => ?_)
    · refine lv_null hx hb dX7_holeNamed_21 ?_
      exact s_aretE hx hb hr hlocks (Or.inl rfl) (rfl) dX7_holeNamed_22
    · exfalso; omega
set_option maxHeartbeats 4000000 in
set_option maxRecDepth 100000 in
theorem c7_sampleNamed_some (l : Launch) (D : va_G) (cT : Nat → ClassId) (ad : Adr) (τ ρ : Tau) (hI : Rng τ) (h : Nat) (zh : Int) (hzh : zh = (h : Int)) (hh : (h : Int) < τ 12 0) : Met l yX7_sampleNamed wsX7_sampleNamed { frames := 0, cells := 0, slots := 0, locals := 0 } (cPc D cT ad τ ρ [.ref (ad 0 0), .int (iI zh)]) (rV (.ref (ad 18 h))) 0 0 (NoA) := by
  subst hzh
  refine c_start (by decide) rfl (Nat.le_of_ble_eq_true rfl) ?_
  intro p e s m below meth c hx hb hr hlocks hml hts hown hW hK hNW ls hl
  have hinX7 : ∀ w ∈ wsX70, w ∈ wsX7_sampleNamed := by decide +kernel
  have hl : lv_has ls 2 [(0, .ref (ad 0 0)), (1, .int (iI ((h : Int))))] := hl
  have hf12 : (0 : Int) ≤ τ 12 0 ∧ τ 12 0 ≤ 30 := hI 12 0
  refine lv_iload_n hx hb dX7_sampleNamed_0 rfl (lv_at hl 1 rfl) ?_
  refine z_if_lt (tgt := 21) hx hb (by omega) dX7_sampleNamed_1 (by decide) (fun c1 => ?_) (fun c1 => ?_)
  · exfalso; omega
  · refine lv_iload_n hx hb dX7_sampleNamed_4 rfl (lv_at hl 1 rfl) ?_
    refine lv_aload_n hx hb dX7_sampleNamed_5 rfl (lv_at hl 0 rfl) ?_
    refine y_get (C := RX7) (T := TX7) (N := 11) (ref := "CoreShed") (ci := 7) hx hb hts hinX7 hown hK (cw0 hW) rfl 7 (by decide) (hts _ (by decide +kernel)) rfl (v := .int (iI (τ 12 0))) rfl dX7_sampleNamed_6 ?_
    have r2 : (0 : Int) ≤ τ 12 0 ∧ τ 12 0 ≤ 30 := hI 12 0
    refine z_icmp_ge (tgt := 21) hx hb (by omega) (by omega) dX7_sampleNamed_9 (by decide) (fun c3 => ?_) (fun c3 => ?_)
    · exfalso; omega
    · refine lv_aload_n hx hb dX7_sampleNamed_12 rfl (lv_at hl 0 rfl) ?_
      refine y_get (C := RX7) (T := TX7) (N := 11) (ref := "CoreShed") (ci := 7) hx hb hts hinX7 hown hK (cw0 hW) rfl 1 (by decide) (hts _ (by decide +kernel)) rfl (v := .ref (ad 2 0)) rfl dX7_sampleNamed_13 ?_
      refine lv_iload_n hx hb dX7_sampleNamed_16 rfl (lv_at hl 1 rfl) ?_
      refine y_aaldS (ty := .object "CoreShed$Sample") (j := h) (q := ad 18 h) hx hb hK 3 rfl (cw2 hW) rfl (by omega) (by omega) (by decide) (if_pos (by omega)) dX7_sampleNamed_17 ?_
      refine lv_goto (tgt := 22) hx hb dX7_sampleNamed_18 (by decide) ?_
      exact s_aretE hx hb hr hlocks (Or.inr ⟨_, rfl⟩) (rfl) dX7_sampleNamed_22
set_option maxHeartbeats 4000000 in
set_option maxRecDepth 100000 in
theorem c7_sampleNamed_none (l : Launch) (D : va_G) (cT : Nat → ClassId) (ad : Adr) (τ ρ : Tau) (hI : Rng τ) (a : Int) (h_a : I32 a) (hh : ¬ (0 ≤ a ∧ a < τ 12 0)) : Met l yX7_sampleNamed wsX7_sampleNamed { frames := 0, cells := 0, slots := 0, locals := 0 } (cPc D cT ad τ ρ [.ref (ad 0 0), .int (iI (a))]) (rV (.null)) 0 0 (NoA) := by
  refine c_start (by decide) rfl (Nat.le_of_ble_eq_true rfl) ?_
  intro p e s m below meth c hx hb hr hlocks hml hts hown hW hK hNW ls hl
  have hinX7 : ∀ w ∈ wsX70, w ∈ wsX7_sampleNamed := by decide +kernel
  have hl : lv_has ls 2 [(0, .ref (ad 0 0)), (1, .int (iI (a)))] := hl
  refine lv_iload_n hx hb dX7_sampleNamed_0 rfl (lv_at hl 1 rfl) ?_
  refine z_if_lt (tgt := 21) hx hb (by omega) dX7_sampleNamed_1 (by decide) (fun c1 => ?_) (fun c1 => ?_)
  · refine lv_null hx hb dX7_sampleNamed_21 ?_
    exact s_aretE hx hb hr hlocks (Or.inl rfl) (rfl) dX7_sampleNamed_22
  · refine lv_iload_n hx hb dX7_sampleNamed_4 rfl (lv_at hl 1 rfl) ?_
    refine lv_aload_n hx hb dX7_sampleNamed_5 rfl (lv_at hl 0 rfl) ?_
    refine y_get (C := RX7) (T := TX7) (N := 11) (ref := "CoreShed") (ci := 7) hx hb hts hinX7 hown hK (cw0 hW) rfl 7 (by decide) (hts _ (by decide +kernel)) rfl (v := .int (iI (τ 12 0))) rfl dX7_sampleNamed_6 ?_
    have r2 : (0 : Int) ≤ τ 12 0 ∧ τ 12 0 ≤ 30 := hI 12 0
    refine z_icmp_ge (tgt := 21) hx hb (by omega) (by omega) dX7_sampleNamed_9 (by decide) (fun c3 => ?_) (fun c3 => ?_)
    · refine lv_null hx hb dX7_sampleNamed_21 ?_
      exact s_aretE hx hb hr hlocks (Or.inl rfl) (rfl) dX7_sampleNamed_22
    · exfalso; omega
set_option maxHeartbeats 4000000 in
set_option maxRecDepth 100000 in
theorem c7_batchNamed_some (l : Launch) (D : va_G) (cT : Nat → ClassId) (ad : Adr) (τ ρ : Tau) (hI : Rng τ) (h : Nat) (zh : Int) (hzh : zh = (h : Int)) (hh : (h : Int) < τ 18 0) : Met l yX7_batchNamed wsX7_batchNamed { frames := 0, cells := 0, slots := 0, locals := 0 } (cPc D cT ad τ ρ [.ref (ad 0 0), .int (iI zh)]) (rV (.ref (ad 19 h))) 0 0 (NoA) := by
  subst hzh
  refine c_start (by decide) rfl (Nat.le_of_ble_eq_true rfl) ?_
  intro p e s m below meth c hx hb hr hlocks hml hts hown hW hK hNW ls hl
  have hinX7 : ∀ w ∈ wsX70, w ∈ wsX7_batchNamed := by decide +kernel
  have hl : lv_has ls 2 [(0, .ref (ad 0 0)), (1, .int (iI ((h : Int))))] := hl
  have hf18 : (0 : Int) ≤ τ 18 0 ∧ τ 18 0 ≤ 6 := hI 18 0
  refine lv_iload_n hx hb dX7_batchNamed_0 rfl (lv_at hl 1 rfl) ?_
  refine z_if_lt (tgt := 21) hx hb (by omega) dX7_batchNamed_1 (by decide) (fun c1 => ?_) (fun c1 => ?_)
  · exfalso; omega
  · refine lv_iload_n hx hb dX7_batchNamed_4 rfl (lv_at hl 1 rfl) ?_
    refine lv_aload_n hx hb dX7_batchNamed_5 rfl (lv_at hl 0 rfl) ?_
    refine y_get (C := RX7) (T := TX7) (N := 11) (ref := "CoreShed") (ci := 7) hx hb hts hinX7 hown hK (cw0 hW) rfl 8 (by decide) (hts _ (by decide +kernel)) rfl (v := .int (iI (τ 18 0))) rfl dX7_batchNamed_6 ?_
    have r2 : (0 : Int) ≤ τ 18 0 ∧ τ 18 0 ≤ 6 := hI 18 0
    refine z_icmp_ge (tgt := 21) hx hb (by omega) (by omega) dX7_batchNamed_9 (by decide) (fun c3 => ?_) (fun c3 => ?_)
    · exfalso; omega
    · refine lv_aload_n hx hb dX7_batchNamed_12 rfl (lv_at hl 0 rfl) ?_
      refine y_get (C := RX7) (T := TX7) (N := 11) (ref := "CoreShed") (ci := 7) hx hb hts hinX7 hown hK (cw0 hW) rfl 2 (by decide) (hts _ (by decide +kernel)) rfl (v := .ref (ad 3 0)) rfl dX7_batchNamed_13 ?_
      refine lv_iload_n hx hb dX7_batchNamed_16 rfl (lv_at hl 1 rfl) ?_
      refine y_aaldS (ty := .object "CoreShed$Batch") (j := h) (q := ad 19 h) hx hb hK 4 rfl (cw3 hW) rfl (by omega) (by omega) (by decide) (if_pos (by omega)) dX7_batchNamed_17 ?_
      refine lv_goto (tgt := 22) hx hb dX7_batchNamed_18 (by decide) ?_
      exact s_aretE hx hb hr hlocks (Or.inr ⟨_, rfl⟩) (rfl) dX7_batchNamed_22
set_option maxHeartbeats 4000000 in
set_option maxRecDepth 100000 in
theorem c7_batchNamed_none (l : Launch) (D : va_G) (cT : Nat → ClassId) (ad : Adr) (τ ρ : Tau) (hI : Rng τ) (a : Int) (h_a : I32 a) (hh : ¬ (0 ≤ a ∧ a < τ 18 0)) : Met l yX7_batchNamed wsX7_batchNamed { frames := 0, cells := 0, slots := 0, locals := 0 } (cPc D cT ad τ ρ [.ref (ad 0 0), .int (iI (a))]) (rV (.null)) 0 0 (NoA) := by
  refine c_start (by decide) rfl (Nat.le_of_ble_eq_true rfl) ?_
  intro p e s m below meth c hx hb hr hlocks hml hts hown hW hK hNW ls hl
  have hinX7 : ∀ w ∈ wsX70, w ∈ wsX7_batchNamed := by decide +kernel
  have hl : lv_has ls 2 [(0, .ref (ad 0 0)), (1, .int (iI (a)))] := hl
  refine lv_iload_n hx hb dX7_batchNamed_0 rfl (lv_at hl 1 rfl) ?_
  refine z_if_lt (tgt := 21) hx hb (by omega) dX7_batchNamed_1 (by decide) (fun c1 => ?_) (fun c1 => ?_)
  · refine lv_null hx hb dX7_batchNamed_21 ?_
    exact s_aretE hx hb hr hlocks (Or.inl rfl) (rfl) dX7_batchNamed_22
  · refine lv_iload_n hx hb dX7_batchNamed_4 rfl (lv_at hl 1 rfl) ?_
    refine lv_aload_n hx hb dX7_batchNamed_5 rfl (lv_at hl 0 rfl) ?_
    refine y_get (C := RX7) (T := TX7) (N := 11) (ref := "CoreShed") (ci := 7) hx hb hts hinX7 hown hK (cw0 hW) rfl 8 (by decide) (hts _ (by decide +kernel)) rfl (v := .int (iI (τ 18 0))) rfl dX7_batchNamed_6 ?_
    have r2 : (0 : Int) ≤ τ 18 0 ∧ τ 18 0 ≤ 6 := hI 18 0
    refine z_icmp_ge (tgt := 21) hx hb (by omega) (by omega) dX7_batchNamed_9 (by decide) (fun c3 => ?_) (fun c3 => ?_)
    · refine lv_null hx hb dX7_batchNamed_21 ?_
      exact s_aretE hx hb hr hlocks (Or.inl rfl) (rfl) dX7_batchNamed_22
    · exfalso; omega
set_option maxHeartbeats 4000000 in
set_option maxRecDepth 100000 in
theorem c7_logNamed_some (l : Launch) (D : va_G) (cT : Nat → ClassId) (ad : Adr) (τ ρ : Tau) (hI : Rng τ) (h : Nat) (zh : Int) (hzh : zh = (h : Int)) (j : Nat) (zj : Int) (hzj : zj = (j : Int)) (hh : (h : Int) < τ 0 0) (hj : j ≤ 1) : Met l yX7_logNamed wsX7_logNamed { frames := 1, cells := 0, slots := 0, locals := 21 } (cPc D cT ad τ ρ [.ref (ad 0 0), .int (iI zh), .int (iI zj)]) (rV (.ref (ad 15 (2 * h + j)))) 0 0 (NoA) := by
  subst hzh
  subst hzj
  refine c_start (by decide) rfl (Nat.le_of_ble_eq_true rfl) ?_
  intro p e s m below meth c hx hb hr hlocks hml hts hown hW hK hNW ls hl
  have hinX1 : ∀ w ∈ wsX10, w ∈ wsX7_logNamed := by decide +kernel
  have hl : lv_has ls 4 [(0, .ref (ad 0 0)), (1, .int (iI ((h : Int)))), (2, .int (iI ((j : Int))))] := hl
  have hf0 : (0 : Int) ≤ τ 0 0 ∧ τ 0 0 ≤ 4 := hI 0 0
  refine lv_aload_n hx hb dX7_logNamed_0 rfl (lv_at hl 0 rfl) ?_
  refine lv_iload_n hx hb dX7_logNamed_1 rfl (lv_at hl 1 rfl) ?_
  refine c_callR (n := 1) (As := [.int (iI ((h : Int)))]) (rest := []) hx hb hml hts hown hK hNW hW (va_recv hK (cw0 hW) (ci := 7) (q0 := 0) rfl rfl) (c7_holeNamed_some l D cT ad τ ρ hI h (h : Int) (by omega) (by omega)) gX7_logNamed_X7_holeNamed rfl rfl rfl (by decide +kernel) ⟨by decide, by decide⟩ rfl hl.1 rfl (Nat.le_of_ble_eq_true rfl) ⟨Nat.zero_le _, Nat.zero_le _⟩ dX7_logNamed_2 ?_
  refine lv_astore_n (lv' := [(3, .ref (ad 11 h)), (0, .ref (ad 0 0)), (1, .int (iI ((h : Int)))), (2, .int (iI ((j : Int))))]) hx hb dX7_logNamed_5 rfl hl (by decide) rfl (fun ls hl => ?_)
  refine lv_aload_n hx hb dX7_logNamed_6 rfl (lv_at hl 0 rfl) ?_
  refine lv_ifnull hx hb dX7_logNamed_7 ?_
  refine lv_iload_n hx hb dX7_logNamed_10 rfl (lv_at hl 3 rfl) ?_
  refine z_if_eq (tgt := 21) hx hb (by omega) dX7_logNamed_11 (by decide) (fun c1 => ?_) (fun c1 => ?_)
  · refine lv_iload_n hx hb dX7_logNamed_21 rfl (lv_at hl 3 rfl) ?_
    refine z_if_ne (tgt := 32) hx hb (by omega) dX7_logNamed_22 (by decide) (fun c2 => ?_) (fun c2 => ?_)
    · refine lv_aload_n hx hb dX7_logNamed_32 rfl (lv_at hl 0 rfl) ?_
      refine y_get (C := RX1) (T := TX1) (N := 8) (ref := "CoreShed$Hole") (ci := 1) hx hb hts hinX1 hown hK (cw11 hW (i := h) (by omega)) rfl 4 (by decide) (hts _ (by decide +kernel)) rfl (v := .ref (ad 15 (2 * h + 1))) rfl dX7_logNamed_33 ?_
      exact s_aretE hx hb hr hlocks (Or.inr ⟨_, rfl⟩) (by congr 2; omega) dX7_logNamed_36
    · refine lv_aload_n hx hb dX7_logNamed_25 rfl (lv_at hl 0 rfl) ?_
      refine y_get (C := RX1) (T := TX1) (N := 8) (ref := "CoreShed$Hole") (ci := 1) hx hb hts hinX1 hown hK (cw11 hW (i := h) (by omega)) rfl 3 (by decide) (hts _ (by decide +kernel)) rfl (v := .ref (ad 15 (2 * h))) rfl dX7_logNamed_26 ?_
      refine lv_goto (tgt := 36) hx hb dX7_logNamed_29 (by decide) ?_
      exact s_aretE hx hb hr hlocks (Or.inr ⟨_, rfl⟩) (by congr 2; omega) dX7_logNamed_36
  · refine lv_iload_n hx hb dX7_logNamed_14 rfl (lv_at hl 3 rfl) ?_
    refine z_iconst hx hb dX7_logNamed_15 ?_
    refine z_icmp_eq (tgt := 21) hx hb (by omega) (by omega) dX7_logNamed_16 (by decide) (fun c3 => ?_) (fun c3 => ?_)
    · refine lv_iload_n hx hb dX7_logNamed_21 rfl (lv_at hl 3 rfl) ?_
      refine z_if_ne (tgt := 32) hx hb (by omega) dX7_logNamed_22 (by decide) (fun c4 => ?_) (fun c4 => ?_)
      · refine lv_aload_n hx hb dX7_logNamed_32 rfl (lv_at hl 0 rfl) ?_
        refine y_get (C := RX1) (T := TX1) (N := 8) (ref := "CoreShed$Hole") (ci := 1) hx hb hts hinX1 hown hK (cw11 hW (i := h) (by omega)) rfl 4 (by decide) (hts _ (by decide +kernel)) rfl (v := .ref (ad 15 (2 * h + 1))) rfl dX7_logNamed_33 ?_
        exact s_aretE hx hb hr hlocks (Or.inr ⟨_, rfl⟩) (by congr 2; omega) dX7_logNamed_36
      · refine lv_aload_n hx hb dX7_logNamed_25 rfl (lv_at hl 0 rfl) ?_
        refine y_get (C := RX1) (T := TX1) (N := 8) (ref := "CoreShed$Hole") (ci := 1) hx hb hts hinX1 hown hK (cw11 hW (i := h) (by omega)) rfl 3 (by decide) (hts _ (by decide +kernel)) rfl (v := .ref (ad 15 (2 * h))) rfl dX7_logNamed_26 ?_
        refine lv_goto (tgt := 36) hx hb dX7_logNamed_29 (by decide) ?_
        exact s_aretE hx hb hr hlocks (Or.inr ⟨_, rfl⟩) (by congr 2; omega) dX7_logNamed_36
    · exfalso; omega
set_option maxHeartbeats 4000000 in
set_option maxRecDepth 100000 in
theorem c7_logNamed_none (l : Launch) (D : va_G) (cT : Nat → ClassId) (ad : Adr) (τ ρ : Tau) (hI : Rng τ) (a : Int) (h_a : I32 a) (b : Int) (h_b : I32 b) (hh : ¬ ((0 ≤ a ∧ a < τ 0 0) ∧ (0 ≤ b ∧ b ≤ 1))) : Met l yX7_logNamed wsX7_logNamed { frames := 1, cells := 0, slots := 0, locals := 21 } (cPc D cT ad τ ρ [.ref (ad 0 0), .int (iI (a)), .int (iI (b))]) (rV (.null)) 0 0 (NoA) := by
  refine c_start (by decide) rfl (Nat.le_of_ble_eq_true rfl) ?_
  intro p e s m below meth c hx hb hr hlocks hml hts hown hW hK hNW ls hl
  have hl : lv_has ls 4 [(0, .ref (ad 0 0)), (1, .int (iI (a))), (2, .int (iI (b)))] := hl
  by_cases hf : 0 ≤ a ∧ a < τ 0 0
  · refine lv_aload_n hx hb dX7_logNamed_0 rfl (lv_at hl 0 rfl) ?_
    refine lv_iload_n hx hb dX7_logNamed_1 rfl (lv_at hl 1 rfl) ?_
    refine c_callR (n := 1) (As := [.int (iI (a))]) (rest := []) hx hb hml hts hown hK hNW hW (va_recv hK (cw0 hW) (ci := 7) (q0 := 0) rfl rfl) (c7_holeNamed_some l D cT ad τ ρ hI a.toNat a (by omega) (by omega)) gX7_logNamed_X7_holeNamed rfl rfl rfl (by decide +kernel) ⟨by decide, by decide⟩ rfl hl.1 rfl (Nat.le_of_ble_eq_true rfl) ⟨Nat.zero_le _, Nat.zero_le _⟩ dX7_logNamed_2 ?_
    refine lv_astore_n (lv' := [(3, .ref (ad 11 a.toNat)), (0, .ref (ad 0 0)), (1, .int (iI (a))), (2, .int (iI (b)))]) hx hb dX7_logNamed_5 rfl hl (by decide) rfl (fun ls hl => ?_)
    refine lv_aload_n hx hb dX7_logNamed_6 rfl (lv_at hl 0 rfl) ?_
    refine lv_ifnull hx hb dX7_logNamed_7 ?_
    refine lv_iload_n hx hb dX7_logNamed_10 rfl (lv_at hl 3 rfl) ?_
    refine z_if_eq (tgt := 21) hx hb (by omega) dX7_logNamed_11 (by decide) (fun c1 => ?_) (fun c1 => ?_)
    · exfalso; omega
    · refine lv_iload_n hx hb dX7_logNamed_14 rfl (lv_at hl 3 rfl) ?_
      refine z_iconst hx hb dX7_logNamed_15 ?_
      refine z_icmp_eq (tgt := 21) hx hb (by omega) (by omega) dX7_logNamed_16 (by decide) (fun c2 => ?_) (fun c2 => ?_)
      · exfalso; omega
      · refine lv_null hx hb dX7_logNamed_19 ?_
        exact s_aretE hx hb hr hlocks (Or.inl rfl) (rfl) dX7_logNamed_20
  · refine lv_aload_n hx hb dX7_logNamed_0 rfl (lv_at hl 0 rfl) ?_
    refine lv_iload_n hx hb dX7_logNamed_1 rfl (lv_at hl 1 rfl) ?_
    refine c_callR (n := 1) (As := [.int (iI (a))]) (rest := []) hx hb hml hts hown hK hNW hW (va_recv hK (cw0 hW) (ci := 7) (q0 := 0) rfl rfl) (c7_holeNamed_none l D cT ad τ ρ hI a (by omega) (by omega)) gX7_logNamed_X7_holeNamed rfl rfl rfl (by decide +kernel) ⟨by decide, by decide⟩ rfl hl.1 rfl (Nat.le_of_ble_eq_true rfl) ⟨Nat.zero_le _, Nat.zero_le _⟩ dX7_logNamed_2 ?_
    refine lv_astore_nN (lv' := [(3, .null), (0, .ref (ad 0 0)), (1, .int (iI (a))), (2, .int (iI (b)))]) hx hb dX7_logNamed_5 rfl hl (by decide) rfl (fun ls hl => ?_)
    refine lv_aload_nN hx hb dX7_logNamed_6 rfl (lv_at hl 0 rfl) ?_
    refine lv_ifnullN (tgt := 19) hx hb dX7_logNamed_7 (by decide) ?_
    refine lv_null hx hb dX7_logNamed_19 ?_
    exact s_aretE hx hb hr hlocks (Or.inl rfl) (rfl) dX7_logNamed_20
set_option maxHeartbeats 4000000 in
set_option maxRecDepth 100000 in
theorem c7_placeNamed_some (l : Launch) (D : va_G) (cT : Nat → ClassId) (ad : Adr) (τ ρ : Tau) (hI : Rng τ) (b : Nat) (zb : Int) (hzb : zb = (b : Int)) (q : Nat) (zq : Int) (hzq : zq = (q : Int)) (hh : (b : Int) < τ 18 0) (hq : (q : Int) < τ 19 b) : Met l yX7_placeNamed wsX7_placeNamed { frames := 1, cells := 0, slots := 0, locals := 21 } (cPc D cT ad τ ρ [.ref (ad 0 0), .int (iI zb), .int (iI zq)]) (rV (.ref (ad 21 (16 * b + q)))) 0 0 (NoA) := by
  subst hzb
  subst hzq
  refine c_start (by decide) rfl (Nat.le_of_ble_eq_true rfl) ?_
  intro p e s m below meth c hx hb hr hlocks hml hts hown hW hK hNW ls hl
  have hinX0 : ∀ w ∈ wsX00, w ∈ wsX7_placeNamed := by decide +kernel
  have hl : lv_has ls 4 [(0, .ref (ad 0 0)), (1, .int (iI ((b : Int)))), (2, .int (iI ((q : Int))))] := hl
  have hf18 : (0 : Int) ≤ τ 18 0 ∧ τ 18 0 ≤ 6 := hI 18 0
  have hf19 : (0 : Int) ≤ τ 19 b ∧ τ 19 b ≤ 16 := hI 19 b
  refine lv_aload_n hx hb dX7_placeNamed_0 rfl (lv_at hl 0 rfl) ?_
  refine lv_iload_n hx hb dX7_placeNamed_1 rfl (lv_at hl 1 rfl) ?_
  refine c_callR (n := 1) (As := [.int (iI ((b : Int)))]) (rest := []) hx hb hml hts hown hK hNW hW (va_recv hK (cw0 hW) (ci := 7) (q0 := 0) rfl rfl) (c7_batchNamed_some l D cT ad τ ρ hI b (b : Int) (by omega) (by omega)) gX7_placeNamed_X7_batchNamed rfl rfl rfl (by decide +kernel) ⟨by decide, by decide⟩ rfl hl.1 rfl (Nat.le_of_ble_eq_true rfl) ⟨Nat.zero_le _, Nat.zero_le _⟩ dX7_placeNamed_2 ?_
  refine lv_astore_n (lv' := [(3, .ref (ad 19 b)), (0, .ref (ad 0 0)), (1, .int (iI ((b : Int)))), (2, .int (iI ((q : Int))))]) hx hb dX7_placeNamed_5 rfl hl (by decide) rfl (fun ls hl => ?_)
  refine lv_aload_n hx hb dX7_placeNamed_6 rfl (lv_at hl 0 rfl) ?_
  refine lv_ifnull hx hb dX7_placeNamed_7 ?_
  refine lv_iload_n hx hb dX7_placeNamed_10 rfl (lv_at hl 3 rfl) ?_
  refine z_if_lt (tgt := 31) hx hb (by omega) dX7_placeNamed_11 (by decide) (fun c1 => ?_) (fun c1 => ?_)
  · exfalso; omega
  · refine lv_iload_n hx hb dX7_placeNamed_14 rfl (lv_at hl 3 rfl) ?_
    refine lv_aload_n hx hb dX7_placeNamed_15 rfl (lv_at hl 0 rfl) ?_
    refine y_get (C := RX0) (T := TX0) (N := 2) (ref := "CoreShed$Batch") (ci := 0) hx hb hts hinX0 hown hK (cw19 hW (i := b) (by omega)) rfl 1 (by decide) (hts _ (by decide +kernel)) rfl (v := .int (iI (τ 19 b))) rfl dX7_placeNamed_16 ?_
    have r2 : (0 : Int) ≤ τ 19 b ∧ τ 19 b ≤ 16 := hI 19 b
    refine z_icmp_ge (tgt := 31) hx hb (by omega) (by omega) dX7_placeNamed_19 (by decide) (fun c3 => ?_) (fun c3 => ?_)
    · exfalso; omega
    · refine lv_aload_n hx hb dX7_placeNamed_22 rfl (lv_at hl 0 rfl) ?_
      refine y_get (C := RX0) (T := TX0) (N := 2) (ref := "CoreShed$Batch") (ci := 0) hx hb hts hinX0 hown hK (cw19 hW (i := b) (by omega)) rfl 0 (by decide) (hts _ (by decide +kernel)) rfl (v := .ref (ad 20 b)) rfl dX7_placeNamed_23 ?_
      refine lv_iload_n hx hb dX7_placeNamed_26 rfl (lv_at hl 3 rfl) ?_
      refine y_aaldS (ty := .object "CoreShed$Place") (j := q) (q := ad 21 (16 * b + q)) hx hb hK 5 rfl (cw20 hW (i := b) (by omega)) rfl (by omega) (by omega) (by decide) (if_pos (by omega)) dX7_placeNamed_27 ?_
      refine lv_goto (tgt := 32) hx hb dX7_placeNamed_28 (by decide) ?_
      exact s_aretE hx hb hr hlocks (Or.inr ⟨_, rfl⟩) (rfl) dX7_placeNamed_32
set_option maxHeartbeats 4000000 in
set_option maxRecDepth 100000 in
theorem c7_placeNamed_none (l : Launch) (D : va_G) (cT : Nat → ClassId) (ad : Adr) (τ ρ : Tau) (hI : Rng τ) (a : Int) (h_a : I32 a) (b : Int) (h_b : I32 b) (hh : ¬ ((0 ≤ a ∧ a < τ 18 0) ∧ (0 ≤ b ∧ b < τ 19 a.toNat))) : Met l yX7_placeNamed wsX7_placeNamed { frames := 1, cells := 0, slots := 0, locals := 21 } (cPc D cT ad τ ρ [.ref (ad 0 0), .int (iI (a)), .int (iI (b))]) (rV (.null)) 0 0 (NoA) := by
  refine c_start (by decide) rfl (Nat.le_of_ble_eq_true rfl) ?_
  intro p e s m below meth c hx hb hr hlocks hml hts hown hW hK hNW ls hl
  have hinX0 : ∀ w ∈ wsX00, w ∈ wsX7_placeNamed := by decide +kernel
  have hl : lv_has ls 4 [(0, .ref (ad 0 0)), (1, .int (iI (a))), (2, .int (iI (b)))] := hl
  by_cases hf : 0 ≤ a ∧ a < τ 18 0
  · refine lv_aload_n hx hb dX7_placeNamed_0 rfl (lv_at hl 0 rfl) ?_
    refine lv_iload_n hx hb dX7_placeNamed_1 rfl (lv_at hl 1 rfl) ?_
    refine c_callR (n := 1) (As := [.int (iI (a))]) (rest := []) hx hb hml hts hown hK hNW hW (va_recv hK (cw0 hW) (ci := 7) (q0 := 0) rfl rfl) (c7_batchNamed_some l D cT ad τ ρ hI a.toNat a (by omega) (by omega)) gX7_placeNamed_X7_batchNamed rfl rfl rfl (by decide +kernel) ⟨by decide, by decide⟩ rfl hl.1 rfl (Nat.le_of_ble_eq_true rfl) ⟨Nat.zero_le _, Nat.zero_le _⟩ dX7_placeNamed_2 ?_
    refine lv_astore_n (lv' := [(3, .ref (ad 19 a.toNat)), (0, .ref (ad 0 0)), (1, .int (iI (a))), (2, .int (iI (b)))]) hx hb dX7_placeNamed_5 rfl hl (by decide) rfl (fun ls hl => ?_)
    refine lv_aload_n hx hb dX7_placeNamed_6 rfl (lv_at hl 0 rfl) ?_
    refine lv_ifnull hx hb dX7_placeNamed_7 ?_
    refine lv_iload_n hx hb dX7_placeNamed_10 rfl (lv_at hl 3 rfl) ?_
    refine z_if_lt (tgt := 31) hx hb (by omega) dX7_placeNamed_11 (by decide) (fun c1 => ?_) (fun c1 => ?_)
    · refine lv_null hx hb dX7_placeNamed_31 ?_
      exact s_aretE hx hb hr hlocks (Or.inl rfl) (rfl) dX7_placeNamed_32
    · refine lv_iload_n hx hb dX7_placeNamed_14 rfl (lv_at hl 3 rfl) ?_
      refine lv_aload_n hx hb dX7_placeNamed_15 rfl (lv_at hl 0 rfl) ?_
      refine y_get (C := RX0) (T := TX0) (N := 2) (ref := "CoreShed$Batch") (ci := 0) hx hb hts hinX0 hown hK (cw19 hW (i := a.toNat) (by omega)) rfl 1 (by decide) (hts _ (by decide +kernel)) rfl (v := .int (iI (τ 19 a.toNat))) rfl dX7_placeNamed_16 ?_
      have r2 : (0 : Int) ≤ τ 19 a.toNat ∧ τ 19 a.toNat ≤ 16 := hI 19 a.toNat
      refine z_icmp_ge (tgt := 31) hx hb (by omega) (by omega) dX7_placeNamed_19 (by decide) (fun c3 => ?_) (fun c3 => ?_)
      · refine lv_null hx hb dX7_placeNamed_31 ?_
        exact s_aretE hx hb hr hlocks (Or.inl rfl) (rfl) dX7_placeNamed_32
      · exfalso; omega
  · refine lv_aload_n hx hb dX7_placeNamed_0 rfl (lv_at hl 0 rfl) ?_
    refine lv_iload_n hx hb dX7_placeNamed_1 rfl (lv_at hl 1 rfl) ?_
    refine c_callR (n := 1) (As := [.int (iI (a))]) (rest := []) hx hb hml hts hown hK hNW hW (va_recv hK (cw0 hW) (ci := 7) (q0 := 0) rfl rfl) (c7_batchNamed_none l D cT ad τ ρ hI a (by omega) (by omega)) gX7_placeNamed_X7_batchNamed rfl rfl rfl (by decide +kernel) ⟨by decide, by decide⟩ rfl hl.1 rfl (Nat.le_of_ble_eq_true rfl) ⟨Nat.zero_le _, Nat.zero_le _⟩ dX7_placeNamed_2 ?_
    refine lv_astore_nN (lv' := [(3, .null), (0, .ref (ad 0 0)), (1, .int (iI (a))), (2, .int (iI (b)))]) hx hb dX7_placeNamed_5 rfl hl (by decide) rfl (fun ls hl => ?_)
    refine lv_aload_nN hx hb dX7_placeNamed_6 rfl (lv_at hl 0 rfl) ?_
    refine lv_ifnullN (tgt := 31) hx hb dX7_placeNamed_7 (by decide) ?_
    refine lv_null hx hb dX7_placeNamed_31 ?_
    exact s_aretE hx hb hr hlocks (Or.inl rfl) (rfl) dX7_placeNamed_32
set_option maxHeartbeats 4000000 in
set_option maxRecDepth 100000 in
theorem c7_isSampled (l : Launch) (D : va_G) (cT : Nat → ClassId) (ad : Adr) (τ ρ : Tau) (hI : Rng τ) (x : Int) (h_x : I32 x)  : Met l yX7_isSampled wsX7_isSampled { frames := 0, cells := 0, slots := 0, locals := 0 } (cPc D cT ad τ ρ [.ref (ad 0 0), .int (iI (x))]) (rS (bI (smB τ x = true))) 0 0 (NoA) := by
  refine c_start (by decide) rfl (Nat.le_of_ble_eq_true rfl) ?_
  intro p e s m below meth c hx hb hr hlocks hml hts hown hW hK hNW ls hl
  have hinX6 : ∀ w ∈ wsX60, w ∈ wsX7_isSampled := by decide +kernel
  have hinX7 : ∀ w ∈ wsX70, w ∈ wsX7_isSampled := by decide +kernel
  have hl : lv_has ls 3 [(0, .ref (ad 0 0)), (1, .int (iI (x)))] := hl
  obtain ⟨N, hN⟩ : ∃ N : Nat, τ 12 0 = N := ⟨(τ 12 0).toNat, by have : (0 : Int) ≤ τ 12 0 ∧ τ 12 0 ≤ 30 := hI 12 0; omega⟩
  have hN2 : (τ 12 0).toNat = N := by omega
  have hN3 : N ≤ 30 := by have : (0 : Int) ≤ τ 12 0 ∧ τ 12 0 ≤ 30 := hI 12 0; omega
  refine z_iconst hx hb dX7_isSampled_0 ?_
  refine lv_istore_n (lv' := [(2, .int (iI (0))), (0, .ref (ad 0 0)), (1, .int (iI (x)))]) hx hb dX7_isSampled_1 rfl hl (by decide) rfl (fun ls hl => ?_)
  have lp2 : ∀ (n2 k : Nat) (x2 : Int), x2 = (k : Int) → k ≤ N → N + 1 ≤ k + n2 → (∀ j, j < k → (fun s => decide (τ 13 s = x)) j = false) → ∀ ls : Array Slot, lv_has ls 3 [(2, .int (iI (x2))), (0, .ref (ad 0 0)), (1, .int (iI (x)))] → W p l e { frames := 0, cells := 0, slots := 0, locals := 0 } s m [.ref (ad 0 0), .int (iI (x))].toArray below meth c s.heap [] 0 0 (MQ below (rS (bI (smB τ x = true))) [.ref (ad 0 0), .int (iI (x))].toArray s 0 0 (NoA)) (F0 m 2 ls []) := by
    intro n2
    induction n2 with
    | zero => intro k x2  ex2 hk1 hk2; exact absurd hk2 (by omega)
    | succ n2 ih2 =>
      intro k x2  ex2 hk1 hk2 hn ls hl
      subst ex2
      refine lv_iload_n hx hb dX7_isSampled_2 rfl (lv_at hl 0 rfl) ?_
      refine lv_aload_n hx hb dX7_isSampled_3 rfl (lv_at hl 1 rfl) ?_
      refine y_get (C := RX7) (T := TX7) (N := 11) (ref := "CoreShed") (ci := 7) hx hb hts hinX7 hown hK (cw0 hW) rfl 7 (by decide) (hts _ (by decide +kernel)) rfl (v := .int (iI (τ 12 0))) rfl dX7_isSampled_4 ?_
      have r1 : (0 : Int) ≤ τ 12 0 ∧ τ 12 0 ≤ 30 := hI 12 0
      refine z_icmp_ge (tgt := 31) hx hb (by omega) (by omega) dX7_isSampled_7 (by decide) (fun c2 => ?_) (fun c2 => ?_)
      · refine z_iconst hx hb dX7_isSampled_31 ?_
        exact s_zret hx hb hr hlocks ((bI_f (by unfold smB; rw [hN2, show N = k by omega, exs_f hn]; decide)).symm) dX7_isSampled_32
      · refine lv_aload_n hx hb dX7_isSampled_10 rfl (lv_at hl 1 rfl) ?_
        refine y_get (C := RX7) (T := TX7) (N := 11) (ref := "CoreShed") (ci := 7) hx hb hts hinX7 hown hK (cw0 hW) rfl 1 (by decide) (hts _ (by decide +kernel)) rfl (v := .ref (ad 2 0)) rfl dX7_isSampled_11 ?_
        refine lv_iload_n hx hb dX7_isSampled_14 rfl (lv_at hl 0 rfl) ?_
        refine y_aaldS (ty := .object "CoreShed$Sample") (j := k) (q := ad 18 k) hx hb hK 3 rfl (cw2 hW) rfl (by omega) (by omega) (by decide) (if_pos (by omega)) dX7_isSampled_15 ?_
        refine y_get (C := RX6) (T := TX6) (N := 4) (ref := "CoreShed$Sample") (ci := 6) hx hb hts hinX6 hown hK (cw18 hW (i := k) (by omega)) rfl 0 (by decide) (hts _ (by decide +kernel)) rfl (v := .int (iI (τ 13 k))) rfl dX7_isSampled_16 ?_
        have r3 : (0 : Int) ≤ τ 13 k ∧ τ 13 k ≤ 3 := hI 13 k
        refine lv_iload_n hx hb dX7_isSampled_19 rfl (lv_at hl 2 rfl) ?_
        refine z_icmp_ne (tgt := 25) hx hb (by omega) (by omega) dX7_isSampled_20 (by decide) (fun c4 => ?_) (fun c4 => ?_)
        · refine z_iinc (k := 0) (lv' := [(2, .int (iI ((k : Int) + 1))), (0, .ref (ad 0 0)), (1, .int (iI (x)))]) hx hb dX7_isSampled_25 hl rfl (by decide) rfl (fun ls hl => ?_)
          refine lv_goto (tgt := 2) hx hb dX7_isSampled_28 (by decide) ?_
          exact ih2 (k + 1) ((k : Int) + 1)  (by omega) (by omega) (by omega) (fl_s hn (decide_eq_false (by omega))) ls (lv_sub hl [0, 1, 2] rfl)
        · refine z_iconst hx hb dX7_isSampled_23 ?_
          exact s_zret hx hb hr hlocks ((bI_t (by unfold smB; rw [hN2]; exact exs_t (j := k) (decide_eq_true (by omega)) (by omega))).symm) dX7_isSampled_24
  exact lp2 (N + 1) 0 0  (by omega) (by omega) (by omega) fl_0 ls (lv_sub hl [0, 1, 2] rfl)
set_option maxHeartbeats 4000000 in
set_option maxRecDepth 100000 in
theorem c7_isTaken (l : Launch) (D : va_G) (cT : Nat → ClassId) (ad : Adr) (τ ρ : Tau) (hI : Rng τ) (x : Int) (h_x : I32 x) (a : Int) (h_a : I32 a) (b : Int) (h_b : I32 b) (hab : 0 ≤ a ∧ a ≤ 20000 ∧ 0 ≤ b ∧ b ≤ 20000) : Met l yX7_isTaken wsX7_isTaken { frames := 3, cells := 0, slots := 0, locals := 67 } (cPc D cT ad τ ρ [.ref (ad 0 0), .int (iI (x)), .int (iI (a)), .int (iI (b))]) (rS (bI (tkO τ x a b = true))) 0 0 (NoA) := by
  refine c_start (by decide) rfl (Nat.le_of_ble_eq_true rfl) ?_
  intro p e s m below meth c hx hb hr hlocks hml hts hown hW hK hNW ls hl
  have hinX7 : ∀ w ∈ wsX70, w ∈ wsX7_isTaken := by decide +kernel
  have hl : lv_has ls 5 [(0, .ref (ad 0 0)), (1, .int (iI (x))), (2, .int (iI (a))), (3, .int (iI (b)))] := hl
  obtain ⟨N, hN⟩ : ∃ N : Nat, τ 12 0 = N := ⟨(τ 12 0).toNat, by have : (0 : Int) ≤ τ 12 0 ∧ τ 12 0 ≤ 30 := hI 12 0; omega⟩
  have hN2 : (τ 12 0).toNat = N := by omega
  have hN3 : N ≤ 30 := by have : (0 : Int) ≤ τ 12 0 ∧ τ 12 0 ≤ 30 := hI 12 0; omega
  refine z_iconst hx hb dX7_isTaken_0 ?_
  refine lv_istore (lv' := [(4, .int (iI (0))), (0, .ref (ad 0 0)), (1, .int (iI (x))), (2, .int (iI (a))), (3, .int (iI (b)))]) hx hb dX7_isTaken_1 hl (by decide) rfl (fun ls hl => ?_)
  have lp3 : ∀ (n3 k : Nat) (x4 : Int), x4 = (k : Int) → k ≤ N → N + 1 ≤ k + n3 → (∀ j, j < k → tkB τ x a b j = false) → ∀ ls : Array Slot, lv_has ls 5 [(4, .int (iI (x4))), (0, .ref (ad 0 0)), (1, .int (iI (x))), (2, .int (iI (a))), (3, .int (iI (b)))] → W p l e { frames := 3, cells := 0, slots := 0, locals := 67 } s m [.ref (ad 0 0), .int (iI (x)), .int (iI (a)), .int (iI (b))].toArray below meth c s.heap [] 0 0 (MQ below (rS (bI (tkO τ x a b = true))) [.ref (ad 0 0), .int (iI (x)), .int (iI (a)), .int (iI (b))].toArray s 0 0 (NoA)) (F0 m 3 ls []) := by
    intro n3
    induction n3 with
    | zero => intro k x4  ex4 hk1 hk2; exact absurd hk2 (by omega)
    | succ n3 ih3 =>
      intro k x4  ex4 hk1 hk2 hn ls hl
      subst ex4
      refine lv_iload hx hb dX7_isTaken_3 (lv_at hl 0 rfl) ?_
      refine lv_aload_n hx hb dX7_isTaken_5 rfl (lv_at hl 1 rfl) ?_
      refine y_get (C := RX7) (T := TX7) (N := 11) (ref := "CoreShed") (ci := 7) hx hb hts hinX7 hown hK (cw0 hW) rfl 7 (by decide) (hts _ (by decide +kernel)) rfl (v := .int (iI (τ 12 0))) rfl dX7_isTaken_6 ?_
      have r1 : (0 : Int) ≤ τ 12 0 ∧ τ 12 0 ≤ 30 := hI 12 0
      refine z_icmp_ge (tgt := 36) hx hb (by omega) (by omega) dX7_isTaken_9 (by decide) (fun c2 => ?_) (fun c2 => ?_)
      · refine z_iconst hx hb dX7_isTaken_36 ?_
        exact s_zret hx hb hr hlocks ((bI_f (by unfold tkO; rw [hN2, show N = k by omega, exs_f hn]; decide)).symm) dX7_isTaken_37
      · refine lv_aload_n hx hb dX7_isTaken_12 rfl (lv_at hl 1 rfl) ?_
        refine y_get (C := RX7) (T := TX7) (N := 11) (ref := "CoreShed") (ci := 7) hx hb hts hinX7 hown hK (cw0 hW) rfl 1 (by decide) (hts _ (by decide +kernel)) rfl (v := .ref (ad 2 0)) rfl dX7_isTaken_13 ?_
        refine lv_iload hx hb dX7_isTaken_16 (lv_at hl 0 rfl) ?_
        refine y_aaldS (ty := .object "CoreShed$Sample") (j := k) (q := ad 18 k) hx hb hK 3 rfl (cw2 hW) rfl (by omega) (by omega) (by decide) (if_pos (by omega)) dX7_isTaken_18 ?_
        refine lv_iload_n hx hb dX7_isTaken_19 rfl (lv_at hl 2 rfl) ?_
        refine lv_iload_n hx hb dX7_isTaken_20 rfl (lv_at hl 3 rfl) ?_
        refine lv_iload_n hx hb dX7_isTaken_21 rfl (lv_at hl 4 rfl) ?_
        refine c_call (n := 3) (As := [.int (iI (x)), .int (iI (a)), .int (iI (b))]) (rest := []) hx hb hml hts hown hK hNW hW (va_recv hK (cw18 hW (i := k) (by omega)) (ci := 6) (q0 := 0) rfl rfl) (c6_unitsWithin l D cT ad τ ρ hI k (by omega) x (by omega) a (by omega) b (by omega) (by omega)) gX7_isTaken_X6_unitsWithin rfl rfl rfl (by decide +kernel) ⟨by decide, by decide⟩ rfl hl.1 rfl (Nat.le_of_ble_eq_true rfl) ⟨Nat.zero_le _, Nat.zero_le _⟩ dX7_isTaken_22 ?_
        have r3 := uw_r hI k x a b
        have r4 := uw_tk hI k x a b
        refine z_if_le (tgt := 30) hx hb (by omega) dX7_isTaken_25 (by decide) (fun c5 => ?_) (fun c5 => ?_)
        · refine z_iinc (k := 0) (lv' := [(4, .int (iI ((k : Int) + 1))), (0, .ref (ad 0 0)), (1, .int (iI (x))), (2, .int (iI (a))), (3, .int (iI (b)))]) hx hb dX7_isTaken_30 hl rfl (by decide) rfl (fun ls hl => ?_)
          refine lv_goto (tgt := 3) hx hb dX7_isTaken_33 (by decide) ?_
          exact ih3 (k + 1) ((k : Int) + 1)  (by omega) (by omega) (by omega) (fl_s hn (by have hu := uw_tk hI k x a b; exact Bool.eq_false_iff.mpr (fun hk => by have := hu.mpr hk; omega))) ls (lv_sub hl [0, 1, 2, 3, 4] rfl)
        · refine z_iconst hx hb dX7_isTaken_28 ?_
          exact s_zret hx hb hr hlocks ((bI_t (by unfold tkO; rw [hN2]; exact exs_t (j := k) ((uw_tk hI k x a b).mp (by omega)) (by omega))).symm) dX7_isTaken_29
  exact lp3 (N + 1) 0 0  (by omega) (by omega) (by omega) fl_0 ls (lv_sub hl [0, 1, 2, 3, 4] rfl)
set_option maxHeartbeats 4000000 in
set_option maxRecDepth 100000 in
theorem c7_gradingPlace_some (l : Launch) (D : va_G) (cT : Nat → ClassId) (ad : Adr) (τ ρ : Tau) (hI : Rng τ) (x : Int) (h_x : I32 x) (hw : ∀ b, WhP τ b) (hg : ¬ gaO τ x = -1) : Met l yX7_gradingPlace wsX7_gradingPlace { frames := 5, cells := 0, slots := 0, locals := 111 } (cPc D cT ad τ ρ [.ref (ad 0 0), .int (iI (x))]) (rV (.ref (ad 21 (16 * (gaI τ x).toNat + (plO τ (gaI τ x).toNat x).toNat)))) 0 0 (NoA) := by
  refine c_start (by decide) rfl (Nat.le_of_ble_eq_true rfl) ?_
  intro p e s m below meth c hx hb hr hlocks hml hts hown hW hK hNW ls hl
  have hinX7 : ∀ w ∈ wsX70, w ∈ wsX7_gradingPlace := by decide +kernel
  have hl : lv_has ls 4 [(0, .ref (ad 0 0)), (1, .int (iI (x)))] := hl
  obtain ⟨N, hN⟩ : ∃ N : Nat, τ 18 0 = N := ⟨(τ 18 0).toNat, by have : (0 : Int) ≤ τ 18 0 ∧ τ 18 0 ≤ 6 := hI 18 0; omega⟩
  have hN2 : (τ 18 0).toNat = N := by omega
  have hN3 : N ≤ 6 := by have : (0 : Int) ≤ τ 18 0 ∧ τ 18 0 ≤ 6 := hI 18 0; omega
  refine z_iconst hx hb dX7_gradingPlace_0 ?_
  refine lv_istore_n (lv' := [(2, .int (iI (0))), (0, .ref (ad 0 0)), (1, .int (iI (x)))]) hx hb dX7_gradingPlace_1 rfl hl (by decide) rfl (fun ls hl => ?_)
  have lp2 : ∀ (n2 k : Nat) (x2 : Int), x2 = (k : Int) → k ≤ N → N + 1 ≤ k + n2 → (∀ j, j < k → gaB τ x j = false) → ∀ ls : Array Slot, lv_has ls 4 [(2, .int (iI (x2))), (0, .ref (ad 0 0)), (1, .int (iI (x)))] → W p l e { frames := 5, cells := 0, slots := 0, locals := 111 } s m [.ref (ad 0 0), .int (iI (x))].toArray below meth c s.heap [] 0 0 (MQ below (rV (.ref (ad 21 (16 * (gaI τ x).toNat + (plO τ (gaI τ x).toNat x).toNat)))) [.ref (ad 0 0), .int (iI (x))].toArray s 0 0 (NoA)) (F0 m 2 ls []) := by
    intro n2
    induction n2 with
    | zero => intro k x2  ex2 hk1 hk2; exact absurd hk2 (by omega)
    | succ n2 ih2 =>
      intro k x2  ex2 hk1 hk2 hn ls hl
      subst ex2
      refine lv_iload_n hx hb dX7_gradingPlace_2 rfl (lv_at hl 0 rfl) ?_
      refine lv_aload_n hx hb dX7_gradingPlace_3 rfl (lv_at hl 1 rfl) ?_
      refine y_get (C := RX7) (T := TX7) (N := 11) (ref := "CoreShed") (ci := 7) hx hb hts hinX7 hown hK (cw0 hW) rfl 8 (by decide) (hts _ (by decide +kernel)) rfl (v := .int (iI (τ 18 0))) rfl dX7_gradingPlace_4 ?_
      have r1 : (0 : Int) ≤ τ 18 0 ∧ τ 18 0 ≤ 6 := hI 18 0
      refine z_icmp_ge (tgt := 53) hx hb (by omega) (by omega) dX7_gradingPlace_7 (by decide) (fun c2 => ?_) (fun c2 => ?_)
      · exact absurd (by unfold gaO; rw [if_pos (by unfold gaI; rw [hN2, show N = k by omega]; exact ff_no hn)]) hg
      · by_cases hpl : plO τ k x = -1
        · refine lv_aload_n hx hb dX7_gradingPlace_10 rfl (lv_at hl 1 rfl) ?_
          refine y_get (C := RX7) (T := TX7) (N := 11) (ref := "CoreShed") (ci := 7) hx hb hts hinX7 hown hK (cw0 hW) rfl 2 (by decide) (hts _ (by decide +kernel)) rfl (v := .ref (ad 3 0)) rfl dX7_gradingPlace_11 ?_
          refine lv_iload_n hx hb dX7_gradingPlace_14 rfl (lv_at hl 0 rfl) ?_
          refine y_aaldS (ty := .object "CoreShed$Batch") (j := k) (q := ad 19 k) hx hb hK 4 rfl (cw3 hW) rfl (by omega) (by omega) (by decide) (if_pos (by omega)) dX7_gradingPlace_15 ?_
          refine lv_iload_n hx hb dX7_gradingPlace_16 rfl (lv_at hl 2 rfl) ?_
          refine c_callR (n := 1) (As := [.int (iI (x))]) (rest := []) hx hb hml hts hown hK hNW hW (va_recv hK (cw19 hW (i := k) (by omega)) (ci := 0) (q0 := 0) rfl rfl) (c0_placeOf_none l D cT ad τ ρ hI k (by omega) x (by omega) (by omega)) gX7_gradingPlace_X0_placeOf rfl rfl rfl (by decide +kernel) ⟨by decide, by decide⟩ rfl hl.1 rfl (Nat.le_of_ble_eq_true rfl) ⟨Nat.zero_le _, Nat.zero_le _⟩ dX7_gradingPlace_17 ?_
          refine lv_astore_nN (lv' := [(3, .null), (2, .int (iI ((k : Int)))), (0, .ref (ad 0 0)), (1, .int (iI (x)))]) hx hb dX7_gradingPlace_20 rfl hl (by decide) rfl (fun ls hl => ?_)
          refine lv_aload_nN hx hb dX7_gradingPlace_21 rfl (lv_at hl 0 rfl) ?_
          refine lv_ifnullN (tgt := 47) hx hb dX7_gradingPlace_22 (by decide) ?_
          refine z_iinc (k := 1) (lv' := [(2, .int (iI ((k : Int) + 1))), (3, .null), (0, .ref (ad 0 0)), (1, .int (iI (x)))]) hx hb dX7_gradingPlace_47 hl rfl (by decide) rfl (fun ls hl => ?_)
          refine lv_goto (tgt := 2) hx hb dX7_gradingPlace_50 (by decide) ?_
          exact ih2 (k + 1) ((k : Int) + 1)  (by omega) (by omega) (by omega) (fl_s hn (by unfold gaB; first | (rw [decide_eq_false (by omega)]; rfl) | simp [hpl])) ls (lv_sub hl [0, 2, 3] rfl)
        · refine lv_aload_n hx hb dX7_gradingPlace_10 rfl (lv_at hl 1 rfl) ?_
          refine y_get (C := RX7) (T := TX7) (N := 11) (ref := "CoreShed") (ci := 7) hx hb hts hinX7 hown hK (cw0 hW) rfl 2 (by decide) (hts _ (by decide +kernel)) rfl (v := .ref (ad 3 0)) rfl dX7_gradingPlace_11 ?_
          refine lv_iload_n hx hb dX7_gradingPlace_14 rfl (lv_at hl 0 rfl) ?_
          refine y_aaldS (ty := .object "CoreShed$Batch") (j := k) (q := ad 19 k) hx hb hK 4 rfl (cw3 hW) rfl (by omega) (by omega) (by decide) (if_pos (by omega)) dX7_gradingPlace_15 ?_
          refine lv_iload_n hx hb dX7_gradingPlace_16 rfl (lv_at hl 2 rfl) ?_
          refine c_callR (n := 1) (As := [.int (iI (x))]) (rest := []) hx hb hml hts hown hK hNW hW (va_recv hK (cw19 hW (i := k) (by omega)) (ci := 0) (q0 := 0) rfl rfl) (c0_placeOf_some l D cT ad τ ρ hI k (by omega) x (by omega) (by omega)) gX7_gradingPlace_X0_placeOf rfl rfl rfl (by decide +kernel) ⟨by decide, by decide⟩ rfl hl.1 rfl (Nat.le_of_ble_eq_true rfl) ⟨Nat.zero_le _, Nat.zero_le _⟩ dX7_gradingPlace_17 ?_
          refine lv_astore_n (lv' := [(3, .ref (ad 21 (16 * k + (plO τ k x).toNat))), (2, .int (iI ((k : Int)))), (0, .ref (ad 0 0)), (1, .int (iI (x)))]) hx hb dX7_gradingPlace_20 rfl hl (by decide) rfl (fun ls hl => ?_)
          refine lv_aload_n hx hb dX7_gradingPlace_21 rfl (lv_at hl 0 rfl) ?_
          refine lv_ifnull hx hb dX7_gradingPlace_22 ?_
          refine lv_aload_n hx hb dX7_gradingPlace_25 rfl (lv_at hl 2 rfl) ?_
          refine y_get (C := RX7) (T := TX7) (N := 11) (ref := "CoreShed") (ci := 7) hx hb hts hinX7 hown hK (cw0 hW) rfl 2 (by decide) (hts _ (by decide +kernel)) rfl (v := .ref (ad 3 0)) rfl dX7_gradingPlace_26 ?_
          refine lv_iload_n hx hb dX7_gradingPlace_29 rfl (lv_at hl 1 rfl) ?_
          refine y_aaldS (ty := .object "CoreShed$Batch") (j := k) (q := ad 19 k) hx hb hK 4 rfl (cw3 hW) rfl (by omega) (by omega) (by decide) (if_pos (by omega)) dX7_gradingPlace_30 ?_
          refine lv_aload_n hx hb dX7_gradingPlace_31 rfl (lv_at hl 2 rfl) ?_
          refine y_get (C := RX7) (T := TX7) (N := 11) (ref := "CoreShed") (ci := 7) hx hb hts hinX7 hown hK (cw0 hW) rfl 9 (by decide) (hts _ (by decide +kernel)) rfl (v := .int (iI (τ 25 0))) rfl dX7_gradingPlace_32 ?_
          have r3 : (0 : Int) ≤ τ 25 0 ∧ τ 25 0 ≤ 1000 := hI 25 0
          refine lv_aload_n hx hb dX7_gradingPlace_35 rfl (lv_at hl 2 rfl) ?_
          refine y_get (C := RX7) (T := TX7) (N := 11) (ref := "CoreShed") (ci := 7) hx hb hts hinX7 hown hK (cw0 hW) rfl 10 (by decide) (hts _ (by decide +kernel)) rfl (v := .int (iI (τ 25 1))) rfl dX7_gradingPlace_36 ?_
          have r4 : (0 : Int) ≤ τ 25 1 ∧ τ 25 1 ≤ 1000 := hI 25 1
          refine c_call (n := 2) (As := [.int (iI (τ 25 0)), .int (iI (τ 25 1))]) (rest := []) hx hb hml hts hown hK hNW hW (va_recv hK (cw19 hW (i := k) (by omega)) (ci := 0) (q0 := 0) rfl rfl) (c0_isSound l D cT ad τ ρ hI k (by omega) (hw _)) gX7_gradingPlace_X0_isSound rfl rfl rfl (by decide +kernel) ⟨by decide, by decide⟩ rfl hl.1 rfl (Nat.le_of_ble_eq_true rfl) ⟨Nat.zero_le _, Nat.zero_le _⟩ dX7_gradingPlace_39 ?_
          refine z_if_eqB (tgt := 47) hx hb dX7_gradingPlace_42 (by decide) (fun c5 => ?_) (fun c5 => ?_)
          · refine z_iinc (k := 1) (lv' := [(2, .int (iI ((k : Int) + 1))), (3, .ref (ad 21 (16 * k + (plO τ k x).toNat))), (0, .ref (ad 0 0)), (1, .int (iI (x)))]) hx hb dX7_gradingPlace_47 hl rfl (by decide) rfl (fun ls hl => ?_)
            refine lv_goto (tgt := 2) hx hb dX7_gradingPlace_50 (by decide) ?_
            exact ih2 (k + 1) ((k : Int) + 1)  (by omega) (by omega) (by omega) (fl_s hn (by unfold gaB; first | (rw [decide_eq_false (by omega)]; rfl) | simp [c5])) ls (lv_sub hl [0, 2, 3] rfl)
          · refine lv_aload_n hx hb dX7_gradingPlace_45 rfl (lv_at hl 0 rfl) ?_
            exact s_aretE hx hb hr hlocks (Or.inr ⟨_, rfl⟩) (by have hf : gaI τ x = k := (by unfold gaI; rw [hN2]; exact ff_at hn (by unfold gaB; rw [c5, decide_eq_true hpl]; rfl) (by omega)); rw [hf, Int.toNat_natCast]) dX7_gradingPlace_46
  exact lp2 (N + 1) 0 0  (by omega) (by omega) (by omega) fl_0 ls (lv_sub hl [0, 1, 2] rfl)
set_option maxHeartbeats 4000000 in
set_option maxRecDepth 100000 in
theorem c7_gradingPlace_none (l : Launch) (D : va_G) (cT : Nat → ClassId) (ad : Adr) (τ ρ : Tau) (hI : Rng τ) (x : Int) (h_x : I32 x) (hw : ∀ b, WhP τ b) (hg : gaO τ x = -1) : Met l yX7_gradingPlace wsX7_gradingPlace { frames := 5, cells := 0, slots := 0, locals := 111 } (cPc D cT ad τ ρ [.ref (ad 0 0), .int (iI (x))]) (rV (.null)) 0 0 (NoA) := by
  refine c_start (by decide) rfl (Nat.le_of_ble_eq_true rfl) ?_
  intro p e s m below meth c hx hb hr hlocks hml hts hown hW hK hNW ls hl
  have hinX7 : ∀ w ∈ wsX70, w ∈ wsX7_gradingPlace := by decide +kernel
  have hl : lv_has ls 4 [(0, .ref (ad 0 0)), (1, .int (iI (x)))] := hl
  obtain ⟨N, hN⟩ : ∃ N : Nat, τ 18 0 = N := ⟨(τ 18 0).toNat, by have : (0 : Int) ≤ τ 18 0 ∧ τ 18 0 ≤ 6 := hI 18 0; omega⟩
  have hN2 : (τ 18 0).toNat = N := by omega
  have hN3 : N ≤ 6 := by have : (0 : Int) ≤ τ 18 0 ∧ τ 18 0 ≤ 6 := hI 18 0; omega
  refine z_iconst hx hb dX7_gradingPlace_0 ?_
  refine lv_istore_n (lv' := [(2, .int (iI (0))), (0, .ref (ad 0 0)), (1, .int (iI (x)))]) hx hb dX7_gradingPlace_1 rfl hl (by decide) rfl (fun ls hl => ?_)
  have lp2 : ∀ (n2 k : Nat) (x2 : Int), x2 = (k : Int) → k ≤ N → N + 1 ≤ k + n2 → (∀ j, j < k → gaB τ x j = false) → ∀ ls : Array Slot, lv_has ls 4 [(2, .int (iI (x2))), (0, .ref (ad 0 0)), (1, .int (iI (x)))] → W p l e { frames := 5, cells := 0, slots := 0, locals := 111 } s m [.ref (ad 0 0), .int (iI (x))].toArray below meth c s.heap [] 0 0 (MQ below (rV (.null)) [.ref (ad 0 0), .int (iI (x))].toArray s 0 0 (NoA)) (F0 m 2 ls []) := by
    intro n2
    induction n2 with
    | zero => intro k x2  ex2 hk1 hk2; exact absurd hk2 (by omega)
    | succ n2 ih2 =>
      intro k x2  ex2 hk1 hk2 hn ls hl
      subst ex2
      refine lv_iload_n hx hb dX7_gradingPlace_2 rfl (lv_at hl 0 rfl) ?_
      refine lv_aload_n hx hb dX7_gradingPlace_3 rfl (lv_at hl 1 rfl) ?_
      refine y_get (C := RX7) (T := TX7) (N := 11) (ref := "CoreShed") (ci := 7) hx hb hts hinX7 hown hK (cw0 hW) rfl 8 (by decide) (hts _ (by decide +kernel)) rfl (v := .int (iI (τ 18 0))) rfl dX7_gradingPlace_4 ?_
      have r1 : (0 : Int) ≤ τ 18 0 ∧ τ 18 0 ≤ 6 := hI 18 0
      refine z_icmp_ge (tgt := 53) hx hb (by omega) (by omega) dX7_gradingPlace_7 (by decide) (fun c2 => ?_) (fun c2 => ?_)
      · refine lv_null hx hb dX7_gradingPlace_53 ?_
        exact s_aretE hx hb hr hlocks (Or.inl rfl) (rfl) dX7_gradingPlace_54
      · by_cases hpl : plO τ k x = -1
        · refine lv_aload_n hx hb dX7_gradingPlace_10 rfl (lv_at hl 1 rfl) ?_
          refine y_get (C := RX7) (T := TX7) (N := 11) (ref := "CoreShed") (ci := 7) hx hb hts hinX7 hown hK (cw0 hW) rfl 2 (by decide) (hts _ (by decide +kernel)) rfl (v := .ref (ad 3 0)) rfl dX7_gradingPlace_11 ?_
          refine lv_iload_n hx hb dX7_gradingPlace_14 rfl (lv_at hl 0 rfl) ?_
          refine y_aaldS (ty := .object "CoreShed$Batch") (j := k) (q := ad 19 k) hx hb hK 4 rfl (cw3 hW) rfl (by omega) (by omega) (by decide) (if_pos (by omega)) dX7_gradingPlace_15 ?_
          refine lv_iload_n hx hb dX7_gradingPlace_16 rfl (lv_at hl 2 rfl) ?_
          refine c_callR (n := 1) (As := [.int (iI (x))]) (rest := []) hx hb hml hts hown hK hNW hW (va_recv hK (cw19 hW (i := k) (by omega)) (ci := 0) (q0 := 0) rfl rfl) (c0_placeOf_none l D cT ad τ ρ hI k (by omega) x (by omega) (by omega)) gX7_gradingPlace_X0_placeOf rfl rfl rfl (by decide +kernel) ⟨by decide, by decide⟩ rfl hl.1 rfl (Nat.le_of_ble_eq_true rfl) ⟨Nat.zero_le _, Nat.zero_le _⟩ dX7_gradingPlace_17 ?_
          refine lv_astore_nN (lv' := [(3, .null), (2, .int (iI ((k : Int)))), (0, .ref (ad 0 0)), (1, .int (iI (x)))]) hx hb dX7_gradingPlace_20 rfl hl (by decide) rfl (fun ls hl => ?_)
          refine lv_aload_nN hx hb dX7_gradingPlace_21 rfl (lv_at hl 0 rfl) ?_
          refine lv_ifnullN (tgt := 47) hx hb dX7_gradingPlace_22 (by decide) ?_
          refine z_iinc (k := 1) (lv' := [(2, .int (iI ((k : Int) + 1))), (3, .null), (0, .ref (ad 0 0)), (1, .int (iI (x)))]) hx hb dX7_gradingPlace_47 hl rfl (by decide) rfl (fun ls hl => ?_)
          refine lv_goto (tgt := 2) hx hb dX7_gradingPlace_50 (by decide) ?_
          exact ih2 (k + 1) ((k : Int) + 1)  (by omega) (by omega) (by omega) (fl_s hn (by unfold gaB; first | (rw [decide_eq_false (by omega)]; rfl) | simp [hpl])) ls (lv_sub hl [0, 2, 3] rfl)
        · refine lv_aload_n hx hb dX7_gradingPlace_10 rfl (lv_at hl 1 rfl) ?_
          refine y_get (C := RX7) (T := TX7) (N := 11) (ref := "CoreShed") (ci := 7) hx hb hts hinX7 hown hK (cw0 hW) rfl 2 (by decide) (hts _ (by decide +kernel)) rfl (v := .ref (ad 3 0)) rfl dX7_gradingPlace_11 ?_
          refine lv_iload_n hx hb dX7_gradingPlace_14 rfl (lv_at hl 0 rfl) ?_
          refine y_aaldS (ty := .object "CoreShed$Batch") (j := k) (q := ad 19 k) hx hb hK 4 rfl (cw3 hW) rfl (by omega) (by omega) (by decide) (if_pos (by omega)) dX7_gradingPlace_15 ?_
          refine lv_iload_n hx hb dX7_gradingPlace_16 rfl (lv_at hl 2 rfl) ?_
          refine c_callR (n := 1) (As := [.int (iI (x))]) (rest := []) hx hb hml hts hown hK hNW hW (va_recv hK (cw19 hW (i := k) (by omega)) (ci := 0) (q0 := 0) rfl rfl) (c0_placeOf_some l D cT ad τ ρ hI k (by omega) x (by omega) (by omega)) gX7_gradingPlace_X0_placeOf rfl rfl rfl (by decide +kernel) ⟨by decide, by decide⟩ rfl hl.1 rfl (Nat.le_of_ble_eq_true rfl) ⟨Nat.zero_le _, Nat.zero_le _⟩ dX7_gradingPlace_17 ?_
          refine lv_astore_n (lv' := [(3, .ref (ad 21 (16 * k + (plO τ k x).toNat))), (2, .int (iI ((k : Int)))), (0, .ref (ad 0 0)), (1, .int (iI (x)))]) hx hb dX7_gradingPlace_20 rfl hl (by decide) rfl (fun ls hl => ?_)
          refine lv_aload_n hx hb dX7_gradingPlace_21 rfl (lv_at hl 0 rfl) ?_
          refine lv_ifnull hx hb dX7_gradingPlace_22 ?_
          refine lv_aload_n hx hb dX7_gradingPlace_25 rfl (lv_at hl 2 rfl) ?_
          refine y_get (C := RX7) (T := TX7) (N := 11) (ref := "CoreShed") (ci := 7) hx hb hts hinX7 hown hK (cw0 hW) rfl 2 (by decide) (hts _ (by decide +kernel)) rfl (v := .ref (ad 3 0)) rfl dX7_gradingPlace_26 ?_
          refine lv_iload_n hx hb dX7_gradingPlace_29 rfl (lv_at hl 1 rfl) ?_
          refine y_aaldS (ty := .object "CoreShed$Batch") (j := k) (q := ad 19 k) hx hb hK 4 rfl (cw3 hW) rfl (by omega) (by omega) (by decide) (if_pos (by omega)) dX7_gradingPlace_30 ?_
          refine lv_aload_n hx hb dX7_gradingPlace_31 rfl (lv_at hl 2 rfl) ?_
          refine y_get (C := RX7) (T := TX7) (N := 11) (ref := "CoreShed") (ci := 7) hx hb hts hinX7 hown hK (cw0 hW) rfl 9 (by decide) (hts _ (by decide +kernel)) rfl (v := .int (iI (τ 25 0))) rfl dX7_gradingPlace_32 ?_
          have r3 : (0 : Int) ≤ τ 25 0 ∧ τ 25 0 ≤ 1000 := hI 25 0
          refine lv_aload_n hx hb dX7_gradingPlace_35 rfl (lv_at hl 2 rfl) ?_
          refine y_get (C := RX7) (T := TX7) (N := 11) (ref := "CoreShed") (ci := 7) hx hb hts hinX7 hown hK (cw0 hW) rfl 10 (by decide) (hts _ (by decide +kernel)) rfl (v := .int (iI (τ 25 1))) rfl dX7_gradingPlace_36 ?_
          have r4 : (0 : Int) ≤ τ 25 1 ∧ τ 25 1 ≤ 1000 := hI 25 1
          refine c_call (n := 2) (As := [.int (iI (τ 25 0)), .int (iI (τ 25 1))]) (rest := []) hx hb hml hts hown hK hNW hW (va_recv hK (cw19 hW (i := k) (by omega)) (ci := 0) (q0 := 0) rfl rfl) (c0_isSound l D cT ad τ ρ hI k (by omega) (hw _)) gX7_gradingPlace_X0_isSound rfl rfl rfl (by decide +kernel) ⟨by decide, by decide⟩ rfl hl.1 rfl (Nat.le_of_ble_eq_true rfl) ⟨Nat.zero_le _, Nat.zero_le _⟩ dX7_gradingPlace_39 ?_
          refine z_if_eqB (tgt := 47) hx hb dX7_gradingPlace_42 (by decide) (fun c5 => ?_) (fun c5 => ?_)
          · refine z_iinc (k := 1) (lv' := [(2, .int (iI ((k : Int) + 1))), (3, .ref (ad 21 (16 * k + (plO τ k x).toNat))), (0, .ref (ad 0 0)), (1, .int (iI (x)))]) hx hb dX7_gradingPlace_47 hl rfl (by decide) rfl (fun ls hl => ?_)
            refine lv_goto (tgt := 2) hx hb dX7_gradingPlace_50 (by decide) ?_
            exact ih2 (k + 1) ((k : Int) + 1)  (by omega) (by omega) (by omega) (fl_s hn (by unfold gaB; first | (rw [decide_eq_false (by omega)]; rfl) | simp [c5])) ls (lv_sub hl [0, 2, 3] rfl)
          · (have hf : gaI τ x = k := (by unfold gaI; rw [hN2]; exact ff_at hn (by unfold gaB; rw [c5, decide_eq_true hpl]; rfl) (by omega))); (have hpr := pl_r hI k x); (unfold gaO at hg); (rw [hf, if_neg (by omega), Int.toNat_natCast] at hg); exfalso; omega
  exact lp2 (N + 1) 0 0  (by omega) (by omega) (by omega) fl_0 ls (lv_sub hl [0, 1, 2] rfl)
set_option maxHeartbeats 4000000 in
set_option maxRecDepth 100000 in
theorem c7_quartersTaken (l : Launch) (D : va_G) (cT : Nat → ClassId) (ad : Adr) (τ ρ : Tau) (hI : Rng τ)   : Met l yX7_quartersTaken wsX7_quartersTaken { frames := 0, cells := 0, slots := 0, locals := 0 } (cPc D cT ad τ ρ [.ref (ad 0 0)]) (rS (sm (fun s => 4 - τ 16 s) (τ 12 0).toNat)) 0 0 (NoA) := by
  refine c_start (by decide) rfl (Nat.le_of_ble_eq_true rfl) ?_
  intro p e s m below meth c hx hb hr hlocks hml hts hown hW hK hNW ls hl
  have hinX6 : ∀ w ∈ wsX60, w ∈ wsX7_quartersTaken := by decide +kernel
  have hinX7 : ∀ w ∈ wsX70, w ∈ wsX7_quartersTaken := by decide +kernel
  have hl : lv_has ls 3 [(0, .ref (ad 0 0))] := hl
  obtain ⟨N, hN⟩ : ∃ N : Nat, τ 12 0 = N := ⟨(τ 12 0).toNat, by have : (0 : Int) ≤ τ 12 0 ∧ τ 12 0 ≤ 30 := hI 12 0; omega⟩
  have hN2 : (τ 12 0).toNat = N := by omega
  have hN3 : N ≤ 30 := by have : (0 : Int) ≤ τ 12 0 ∧ τ 12 0 ≤ 30 := hI 12 0; omega
  refine z_iconst hx hb dX7_quartersTaken_0 ?_
  refine lv_istore_n (lv' := [(1, .int (iI (0))), (0, .ref (ad 0 0))]) hx hb dX7_quartersTaken_1 rfl hl (by decide) rfl (fun ls hl => ?_)
  refine z_iconst hx hb dX7_quartersTaken_2 ?_
  refine lv_istore_n (lv' := [(2, .int (iI (0))), (1, .int (iI (0))), (0, .ref (ad 0 0))]) hx hb dX7_quartersTaken_3 rfl hl (by decide) rfl (fun ls hl => ?_)
  have lp4 : ∀ (n4 k : Nat) (x1 x2 : Int), x1 = sm (fun s => 4 - τ 16 s) k → x2 = (k : Int) → k ≤ N → N + 1 ≤ k + n4 → ∀ ls : Array Slot, lv_has ls 3 [(1, .int (iI (x1))), (2, .int (iI (x2))), (0, .ref (ad 0 0))] → W p l e { frames := 0, cells := 0, slots := 0, locals := 0 } s m [.ref (ad 0 0)].toArray below meth c s.heap [] 0 0 (MQ below (rS (sm (fun s => 4 - τ 16 s) (τ 12 0).toNat)) [.ref (ad 0 0)].toArray s 0 0 (NoA)) (F0 m 4 ls []) := by
    intro n4
    induction n4 with
    | zero => intro k x1 x2  ex1 ex2 hk1 hk2; exact absurd hk2 (by omega)
    | succ n4 ih4 =>
      intro k x1 x2  ex1 ex2 hk1 hk2  ls hl
      subst ex1
      subst ex2
      refine lv_iload_n hx hb dX7_quartersTaken_4 rfl (lv_at hl 1 rfl) ?_
      refine lv_aload_n hx hb dX7_quartersTaken_5 rfl (lv_at hl 2 rfl) ?_
      refine y_get (C := RX7) (T := TX7) (N := 11) (ref := "CoreShed") (ci := 7) hx hb hts hinX7 hown hK (cw0 hW) rfl 7 (by decide) (hts _ (by decide +kernel)) rfl (v := .int (iI (τ 12 0))) rfl dX7_quartersTaken_6 ?_
      have r1 : (0 : Int) ≤ τ 12 0 ∧ τ 12 0 ≤ 30 := hI 12 0
      refine z_icmp_ge (tgt := 32) hx hb (by omega) (by omega) dX7_quartersTaken_9 (by decide) (fun c2 => ?_) (fun c2 => ?_)
      · refine lv_iload_n hx hb dX7_quartersTaken_32 rfl (lv_at hl 0 rfl) ?_
        exact s_iret hx hb hr hlocks (by rw [hN2, show N = k by omega]) dX7_quartersTaken_33
      · refine lv_iload_n hx hb dX7_quartersTaken_12 rfl (lv_at hl 0 rfl) ?_
        refine z_iconst hx hb dX7_quartersTaken_13 ?_
        refine lv_aload_n hx hb dX7_quartersTaken_14 rfl (lv_at hl 2 rfl) ?_
        refine y_get (C := RX7) (T := TX7) (N := 11) (ref := "CoreShed") (ci := 7) hx hb hts hinX7 hown hK (cw0 hW) rfl 1 (by decide) (hts _ (by decide +kernel)) rfl (v := .ref (ad 2 0)) rfl dX7_quartersTaken_15 ?_
        refine lv_iload_n hx hb dX7_quartersTaken_18 rfl (lv_at hl 1 rfl) ?_
        refine y_aaldS (ty := .object "CoreShed$Sample") (j := k) (q := ad 18 k) hx hb hK 3 rfl (cw2 hW) rfl (by omega) (by omega) (by decide) (if_pos (by omega)) dX7_quartersTaken_19 ?_
        refine y_get (C := RX6) (T := TX6) (N := 4) (ref := "CoreShed$Sample") (ci := 6) hx hb hts hinX6 hown hK (cw18 hW (i := k) (by omega)) rfl 3 (by decide) (hts _ (by decide +kernel)) rfl (v := .int (iI (τ 16 k))) rfl dX7_quartersTaken_20 ?_
        have r3 : (0 : Int) ≤ τ 16 k ∧ τ 16 k ≤ 4 := hI 16 k
        refine z_isub hx hb dX7_quartersTaken_23 ?_
        refine z_iadd hx hb dX7_quartersTaken_24 ?_
        refine lv_istore_n (lv' := [(1, .int (iI ((sm (fun s => 4 - τ 16 s) k) + (4 - (τ 16 k))))), (2, .int (iI ((k : Int)))), (0, .ref (ad 0 0))]) hx hb dX7_quartersTaken_25 rfl hl (by decide) rfl (fun ls hl => ?_)
        refine z_iinc (k := 1) (lv' := [(2, .int (iI ((k : Int) + 1))), (1, .int (iI ((sm (fun s => 4 - τ 16 s) k) + (4 - (τ 16 k))))), (0, .ref (ad 0 0))]) hx hb dX7_quartersTaken_26 hl rfl (by decide) rfl (fun ls hl => ?_)
        refine lv_goto (tgt := 4) hx hb dX7_quartersTaken_29 (by decide) ?_
        exact ih4 (k + 1) ((sm (fun s => 4 - τ 16 s) k) + (4 - (τ 16 k))) ((k : Int) + 1)  rfl (by omega) (by omega) (by omega)  ls (lv_sub hl [1, 0, 2] rfl)
  exact lp4 (N + 1) 0 0 0  rfl (by omega) (by omega) (by omega)  ls (lv_sub hl [1, 0, 2] rfl)
set_option maxHeartbeats 4000000 in
set_option maxRecDepth 100000 in
theorem c7_soundBatches (l : Launch) (D : va_G) (cT : Nat → ClassId) (ad : Adr) (τ ρ : Tau) (hI : Rng τ)  (hw : ∀ b, WhP τ b) : Met l yX7_soundBatches wsX7_soundBatches { frames := 5, cells := 0, slots := 0, locals := 111 } (cPc D cT ad τ ρ [.ref (ad 0 0)]) (rS (snK τ (τ 18 0).toNat)) 0 0 (NoA) := by
  refine c_start (by decide) rfl (Nat.le_of_ble_eq_true rfl) ?_
  intro p e s m below meth c hx hb hr hlocks hml hts hown hW hK hNW ls hl
  have hinX7 : ∀ w ∈ wsX70, w ∈ wsX7_soundBatches := by decide +kernel
  have hl : lv_has ls 3 [(0, .ref (ad 0 0))] := hl
  obtain ⟨N, hN⟩ : ∃ N : Nat, τ 18 0 = N := ⟨(τ 18 0).toNat, by have : (0 : Int) ≤ τ 18 0 ∧ τ 18 0 ≤ 6 := hI 18 0; omega⟩
  have hN2 : (τ 18 0).toNat = N := by omega
  have hN3 : N ≤ 6 := by have : (0 : Int) ≤ τ 18 0 ∧ τ 18 0 ≤ 6 := hI 18 0; omega
  refine z_iconst hx hb dX7_soundBatches_0 ?_
  refine lv_istore_n (lv' := [(1, .int (iI (0))), (0, .ref (ad 0 0))]) hx hb dX7_soundBatches_1 rfl hl (by decide) rfl (fun ls hl => ?_)
  refine z_iconst hx hb dX7_soundBatches_2 ?_
  refine lv_istore_n (lv' := [(2, .int (iI (0))), (1, .int (iI (0))), (0, .ref (ad 0 0))]) hx hb dX7_soundBatches_3 rfl hl (by decide) rfl (fun ls hl => ?_)
  have lp4 : ∀ (n4 k : Nat) (x1 x2 : Int), x1 = snK τ k → x2 = (k : Int) → k ≤ N → N + 1 ≤ k + n4 → ∀ ls : Array Slot, lv_has ls 3 [(1, .int (iI (x1))), (2, .int (iI (x2))), (0, .ref (ad 0 0))] → W p l e { frames := 5, cells := 0, slots := 0, locals := 111 } s m [.ref (ad 0 0)].toArray below meth c s.heap [] 0 0 (MQ below (rS (snK τ (τ 18 0).toNat)) [.ref (ad 0 0)].toArray s 0 0 (NoA)) (F0 m 4 ls []) := by
    intro n4
    induction n4 with
    | zero => intro k x1 x2  ex1 ex2 hk1 hk2; exact absurd hk2 (by omega)
    | succ n4 ih4 =>
      intro k x1 x2  ex1 ex2 hk1 hk2  ls hl
      subst ex1
      subst ex2
      refine lv_iload_n hx hb dX7_soundBatches_4 rfl (lv_at hl 1 rfl) ?_
      refine lv_aload_n hx hb dX7_soundBatches_5 rfl (lv_at hl 2 rfl) ?_
      refine y_get (C := RX7) (T := TX7) (N := 11) (ref := "CoreShed") (ci := 7) hx hb hts hinX7 hown hK (cw0 hW) rfl 8 (by decide) (hts _ (by decide +kernel)) rfl (v := .int (iI (τ 18 0))) rfl dX7_soundBatches_6 ?_
      have r1 : (0 : Int) ≤ τ 18 0 ∧ τ 18 0 ≤ 6 := hI 18 0
      refine z_icmp_ge (tgt := 41) hx hb (by omega) (by omega) dX7_soundBatches_9 (by decide) (fun c2 => ?_) (fun c2 => ?_)
      · refine lv_iload_n hx hb dX7_soundBatches_41 rfl (lv_at hl 0 rfl) ?_
        exact s_iret hx hb hr hlocks (by rw [hN2, show N = k by omega]) dX7_soundBatches_42
      · refine lv_aload_n hx hb dX7_soundBatches_12 rfl (lv_at hl 2 rfl) ?_
        refine y_get (C := RX7) (T := TX7) (N := 11) (ref := "CoreShed") (ci := 7) hx hb hts hinX7 hown hK (cw0 hW) rfl 2 (by decide) (hts _ (by decide +kernel)) rfl (v := .ref (ad 3 0)) rfl dX7_soundBatches_13 ?_
        refine lv_iload_n hx hb dX7_soundBatches_16 rfl (lv_at hl 1 rfl) ?_
        refine y_aaldS (ty := .object "CoreShed$Batch") (j := k) (q := ad 19 k) hx hb hK 4 rfl (cw3 hW) rfl (by omega) (by omega) (by decide) (if_pos (by omega)) dX7_soundBatches_17 ?_
        refine lv_aload_n hx hb dX7_soundBatches_18 rfl (lv_at hl 2 rfl) ?_
        refine y_get (C := RX7) (T := TX7) (N := 11) (ref := "CoreShed") (ci := 7) hx hb hts hinX7 hown hK (cw0 hW) rfl 9 (by decide) (hts _ (by decide +kernel)) rfl (v := .int (iI (τ 25 0))) rfl dX7_soundBatches_19 ?_
        have r3 : (0 : Int) ≤ τ 25 0 ∧ τ 25 0 ≤ 1000 := hI 25 0
        refine lv_aload_n hx hb dX7_soundBatches_22 rfl (lv_at hl 2 rfl) ?_
        refine y_get (C := RX7) (T := TX7) (N := 11) (ref := "CoreShed") (ci := 7) hx hb hts hinX7 hown hK (cw0 hW) rfl 10 (by decide) (hts _ (by decide +kernel)) rfl (v := .int (iI (τ 25 1))) rfl dX7_soundBatches_23 ?_
        have r4 : (0 : Int) ≤ τ 25 1 ∧ τ 25 1 ≤ 1000 := hI 25 1
        refine c_call (n := 2) (As := [.int (iI (τ 25 0)), .int (iI (τ 25 1))]) (rest := []) hx hb hml hts hown hK hNW hW (va_recv hK (cw19 hW (i := k) (by omega)) (ci := 0) (q0 := 0) rfl rfl) (c0_isSound l D cT ad τ ρ hI k (by omega) (hw _)) gX7_soundBatches_X0_isSound rfl rfl rfl (by decide +kernel) ⟨by decide, by decide⟩ rfl hl.1 rfl (Nat.le_of_ble_eq_true rfl) ⟨Nat.zero_le _, Nat.zero_le _⟩ dX7_soundBatches_26 ?_
        refine z_if_eqB (tgt := 35) hx hb dX7_soundBatches_29 (by decide) (fun c5 => ?_) (fun c5 => ?_)
        · refine z_iinc (k := 1) (lv' := [(2, .int (iI ((k : Int) + 1))), (1, .int (iI (snK τ k))), (0, .ref (ad 0 0))]) hx hb dX7_soundBatches_35 hl rfl (by decide) rfl (fun ls hl => ?_)
          refine lv_goto (tgt := 4) hx hb dX7_soundBatches_38 (by decide) ?_
          exact ih4 (k + 1) (snK τ k) ((k : Int) + 1)  (by show _ = snK τ k + bI (snB τ k = true); rw [bI_f c5, Int.add_zero]) (by omega) (by omega) (by omega)  ls (lv_sub hl [1, 0, 2] rfl)
        · refine z_iinc (k := 0) (lv' := [(1, .int (iI ((snK τ k) + 1))), (2, .int (iI ((k : Int)))), (0, .ref (ad 0 0))]) hx hb dX7_soundBatches_32 hl rfl (by decide) rfl (fun ls hl => ?_)
          refine z_iinc (k := 1) (lv' := [(2, .int (iI ((k : Int) + 1))), (1, .int (iI ((snK τ k) + 1))), (0, .ref (ad 0 0))]) hx hb dX7_soundBatches_35 hl rfl (by decide) rfl (fun ls hl => ?_)
          refine lv_goto (tgt := 4) hx hb dX7_soundBatches_38 (by decide) ?_
          exact ih4 (k + 1) ((snK τ k) + 1) ((k : Int) + 1)  (by show _ = snK τ k + bI (snB τ k = true); rw [bI_t c5]) (by omega) (by omega) (by omega)  ls (lv_sub hl [1, 0, 2] rfl)
  exact lp4 (N + 1) 0 0 0  rfl (by omega) (by omega) (by omega)  ls (lv_sub hl [1, 0, 2] rfl)
