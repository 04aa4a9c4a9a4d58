set_option maxHeartbeats 4000000 in
set_option maxRecDepth 100000 in
theorem c8_in (l : Launch) (a : Int) (h_a : I64 a) (b : Int) (h_b : I64 b) (u : Int) (h_u : I64 u)  : Met l yX8_in wsX8_in { frames := 0, cells := 0, slots := 0, locals := 0 } (sPc [.long (lL (a)), .long (lL (b)), .long (lL (u))]) (rS (bI (b ≤ a ∧ a ≤ u))) 0 0 NoA := by
  refine s_start (by decide) rfl (Nat.le_of_ble_eq_true rfl) ?_
  intro p e s m below meth c hx hb hr hlocks hml hts hown ls hl
  have hl : lv_has ls 6 [(0, .long (lL (a))), (2, .long (lL (b))), (4, .long (lL (u)))] := hl
  refine lv_lload_n hx hb dX8_in_0 rfl (lv_at hl 0 rfl) ?_
  refine lv_lload_n hx hb dX8_in_1 rfl (lv_at hl 1 rfl) ?_
  refine z_lcmp hx hb (by omega) (by omega) dX8_in_2 ?_
  refine z_if_lt (tgt := 17) hx hb (by have := cmpI_r a b; omega) dX8_in_3 (by decide) (fun c1 => ?_) (fun c1 => ?_)
  · rw [cmpI_lt] at c1
    refine z_iconst hx hb dX8_in_17 ?_
    exact s_zret hx hb hr hlocks ((bI_f (by omega)).symm) dX8_in_18
  · rw [cmpI_lt] at c1
    refine lv_lload_n hx hb dX8_in_6 rfl (lv_at hl 0 rfl) ?_
    refine lv_lload hx hb dX8_in_7 (lv_at hl 2 rfl) ?_
    refine z_lcmp hx hb (by omega) (by omega) dX8_in_9 ?_
    refine z_if_gt (tgt := 17) hx hb (by have := cmpI_r a u; omega) dX8_in_10 (by decide) (fun c2 => ?_) (fun c2 => ?_)
    · rw [cmpI_gt] at c2
      refine z_iconst hx hb dX8_in_17 ?_
      exact s_zret hx hb hr hlocks ((bI_f (by omega)).symm) dX8_in_18
    · rw [cmpI_gt] at c2
      refine z_iconst hx hb dX8_in_13 ?_
      refine lv_goto (tgt := 18) hx hb dX8_in_14 (by decide) ?_
      exact s_zret hx hb hr hlocks ((bI_t (by omega)).symm) dX8_in_18
set_option maxHeartbeats 4000000 in
set_option maxRecDepth 100000 in
theorem c8_isHole (l : Launch) (D : va_G) (cI cZ : ClassId) (ad : Nat → Nat) (τ : Tau) (hI : Rng τ) (a : Int) (h_a : I32 a)  : Met l yX8_isHole wsX8_isHole { frames := 1, cells := 0, slots := 0, locals := 25 } (mPc D cI cZ ad τ [.ref (ad 0), .int (iI (a))]) (rS (bI (0 ≤ a ∧ a < τ 0 0))) 0 0 NoA := by
  refine m_start (by decide) rfl (Nat.le_of_ble_eq_true rfl) ?_
  intro p e s m below meth c hx hb hr hlocks hml hts hown hW hK ls hl
  have hin8 : ∀ w ∈ wsX80, w ∈ wsX8_isHole := by decide +kernel
  have hl : lv_has ls 2 [(0, .ref (ad 0)), (1, .int (iI (a)))] := hl
  refine lv_iload_n hx hb dX8_isHole_0 rfl (lv_at hl 1 rfl) ?_
  refine z_i2l hx hb (by omega) dX8_isHole_1 ?_
  refine z_lconst (n := 0) hx hb (by decide) dX8_isHole_2 ?_
  refine lv_aload_n hx hb dX8_isHole_3 rfl (lv_at hl 0 rfl) ?_
  refine m_get hx hb hts hin8 hown hK hW 0 (by decide) (hts _ (by decide +kernel)) (v := .int (iI (τ 0 0))) rfl dX8_isHole_4 ?_
  have r1 : (0 : Int) ≤ τ 0 0 ∧ τ 0 0 ≤ 4 := hI 0 0
  refine z_iconst hx hb dX8_isHole_7 ?_
  refine z_isub hx hb dX8_isHole_8 ?_
  refine z_i2l hx hb (by omega) dX8_isHole_9 ?_
  refine s_call (n := 3) (As := [.long (lL (a)), .long (lL (0)), .long (lL ((τ 0 0) - 1))]) (rest := []) hx hb hml hts hown (c8_in l a (by omega) 0 (by omega) ((τ 0 0) - 1) (by omega)) gX8_isHole_X8_in rfl rfl rfl (by decide +kernel) ⟨by decide, by decide⟩ rfl hl.1 rfl (Nat.le_of_ble_eq_true rfl) ⟨Nat.zero_le _, Nat.zero_le _⟩ dX8_isHole_10 ?_
  exact s_zret hx hb hr hlocks (bI_c (by omega)) dX8_isHole_13
set_option maxHeartbeats 4000000 in
set_option maxRecDepth 100000 in
theorem c8_endOf (l : Launch) (D : va_G) (cI cZ : ClassId) (ad : Nat → Nat) (τ : Tau) (hI : Rng τ) (h : Nat) (zh : Int) (hzh : zh = (h : Int)) (h0 : h < 4) : Met l yX8_endOf wsX8_endOf { frames := 0, cells := 0, slots := 0, locals := 0 } (mPc D cI cZ ad τ [.ref (ad 0), .int (iI zh)]) (rS (enO τ h)) 0 0 NoA := by
  subst hzh
  refine m_start (by decide) rfl (Nat.le_of_ble_eq_true rfl) ?_
  intro p e s m below meth c hx hb hr hlocks hml hts hown hW hK ls hl
  have hin8 : ∀ w ∈ wsX80, w ∈ wsX8_endOf := by decide +kernel
  have hl : lv_has ls 4 [(0, .ref (ad 0)), (1, .int (iI ((h : Int))))] := hl
  obtain ⟨N, hN⟩ : ∃ N : Nat, τ 1 h = N := ⟨(τ 1 h).toNat, by have : (0 : Int) ≤ τ 1 h ∧ τ 1 h ≤ 20 := hI 1 h; omega⟩
  have hN2 : (τ 1 h).toNat = N := by omega
  have hN3 : N ≤ 20 := by have : (0 : Int) ≤ τ 1 h ∧ τ 1 h ≤ 20 := hI 1 h; omega
  refine z_iconst hx hb dX8_endOf_0 ?_
  refine lv_istore_n (lv' := [(2, .int (iI (0))), (0, .ref (ad 0)), (1, .int (iI ((h : Int))))]) hx hb dX8_endOf_1 rfl hl (by decide) rfl (fun ls hl => ?_)
  refine z_iconst hx hb dX8_endOf_2 ?_
  refine lv_istore_n (lv' := [(3, .int (iI (0))), (2, .int (iI (0))), (0, .ref (ad 0)), (1, .int (iI ((h : Int))))]) hx hb dX8_endOf_3 rfl hl (by decide) rfl (fun ls hl => ?_)
  have lp4 : ∀ (n4 k : Nat) (x2 x3 : Int), x2 = sm (fun k => τ 2 (20 * h + k)) k → x3 = (k : Int) → k ≤ N → N + 1 ≤ k + n4 → ∀ ls : Array Slot, lv_has ls 4 [(2, .int (iI (x2))), (3, .int (iI (x3))), (0, .ref (ad 0)), (1, .int (iI ((h : Int))))] → W p l e { frames := 0, cells := 0, slots := 0, locals := 0 } s m [.ref (ad 0), .int (iI ((h : Int)))].toArray below meth c s.heap [] 0 0 (MQ below (rS (enO τ h)) [.ref (ad 0), .int (iI ((h : Int)))].toArray s 0 0 (NoA)) (F0 m 4 ls []) := by
    intro n4
    induction n4 with
    | zero => intro k x2 x3 ex2 ex3 hk1 hk2; exact absurd hk2 (by omega)
    | succ n4 ih4 =>
      intro k x2 x3 ex2 ex3 hk1 hk2  ls hl
      subst ex2
      subst ex3
      refine lv_iload_n hx hb dX8_endOf_4 rfl (lv_at hl 1 rfl) ?_
      refine lv_aload_n hx hb dX8_endOf_5 rfl (lv_at hl 2 rfl) ?_
      refine m_get hx hb hts hin8 hown hK hW 1 (by decide) (hts _ (by decide +kernel)) (v := .ref (ad 1)) rfl dX8_endOf_6 ?_
      refine lv_iload_n hx hb dX8_endOf_9 rfl (lv_at hl 3 rfl) ?_
      refine m_ald (d := 1) (j := h) hx hb hK hW rfl (by omega) (show h < 4 from by omega) dX8_endOf_10 ?_
      have r1 : (0 : Int) ≤ τ 1 h ∧ τ 1 h ≤ 20 := hI 1 h
      refine z_icmp_ge (tgt := 34) hx hb (by omega) (by omega) dX8_endOf_11 (by decide) (fun c2 => ?_) (fun c2 => ?_)
      · refine lv_iload_n hx hb dX8_endOf_34 rfl (lv_at hl 0 rfl) ?_
        exact s_iret hx hb hr hlocks (by unfold enO; rw [hN2, show N = k by omega]) dX8_endOf_35
      · refine lv_iload_n hx hb dX8_endOf_14 rfl (lv_at hl 0 rfl) ?_
        refine lv_aload_n hx hb dX8_endOf_15 rfl (lv_at hl 2 rfl) ?_
        refine m_get hx hb hts hin8 hown hK hW 2 (by decide) (hts _ (by decide +kernel)) (v := .ref (ad 2)) rfl dX8_endOf_16 ?_
        refine z_bipush hx hb dX8_endOf_19 (by decide) ?_
        refine lv_iload_n hx hb dX8_endOf_21 rfl (lv_at hl 3 rfl) ?_
        refine z_imul hx hb dX8_endOf_22 ?_
        refine lv_iload_n hx hb dX8_endOf_23 rfl (lv_at hl 1 rfl) ?_
        refine z_iadd hx hb dX8_endOf_24 ?_
        refine m_ald (d := 2) (j := (20 * h) + k) hx hb hK hW rfl (by omega) (show (20 * h) + k < 80 from by omega) dX8_endOf_25 ?_
        have r3 : (0 : Int) ≤ τ 2 ((20 * h) + k) ∧ τ 2 ((20 * h) + k) ≤ 1000 := hI 2 ((20 * h) + k)
        refine z_iadd hx hb dX8_endOf_26 ?_
        refine lv_istore_n (lv' := [(2, .int (iI ((sm (fun k => τ 2 (20 * h + k)) k) + (τ 2 ((20 * h) + k))))), (3, .int (iI ((k : Int)))), (0, .ref (ad 0)), (1, .int (iI ((h : Int))))]) hx hb dX8_endOf_27 rfl hl (by decide) rfl (fun ls hl => ?_)
        refine z_iinc (k := 1) (lv' := [(3, .int (iI ((k : Int) + 1))), (2, .int (iI ((sm (fun k => τ 2 (20 * h + k)) k) + (τ 2 ((20 * h) + k))))), (0, .ref (ad 0)), (1, .int (iI ((h : Int))))]) hx hb dX8_endOf_28 hl rfl (by decide) rfl (fun ls hl => ?_)
        refine lv_goto (tgt := 4) hx hb dX8_endOf_31 (by decide) ?_
        exact ih4 (k + 1) ((sm (fun k => τ 2 (20 * h + k)) k) + (τ 2 ((20 * h) + k))) ((k : Int) + 1) rfl (by omega) (by omega) (by omega)  ls (lv_sub hl [1, 0, 2, 3] rfl)
  exact lp4 (N + 1) 0 0 0 rfl (by omega) (by omega) (by omega)  ls (lv_sub hl [1, 0, 2, 3] rfl)
set_option maxHeartbeats 4000000 in
set_option maxRecDepth 100000 in
theorem c8_isStretch (l : Launch) (D : va_G) (cI cZ : ClassId) (ad : Nat → Nat) (τ : Tau) (hI : Rng τ) (h : Nat) (zh : Int) (hzh : zh = (h : Int)) (a : Int) (h_a : I32 a) (b : Int) (h_b : I32 b) (h0 : h < 4) : Met l yX8_isStretch wsX8_isStretch { frames := 1, cells := 0, slots := 0, locals := 23 } (mPc D cI cZ ad τ [.ref (ad 0), .int (iI zh), .int (iI (a)), .int (iI (b))]) (rS (bI (0 ≤ a ∧ a < b ∧ b ≤ enO τ h))) 0 0 NoA := by
  subst hzh
  refine m_start (by decide) rfl (Nat.le_of_ble_eq_true rfl) ?_
  intro p e s m below meth c hx hb hr hlocks hml hts hown hW hK ls hl
  have hin8 : ∀ w ∈ wsX80, w ∈ wsX8_isStretch := by decide +kernel
  have hl : lv_has ls 4 [(0, .ref (ad 0)), (1, .int (iI ((h : Int)))), (2, .int (iI (a))), (3, .int (iI (b)))] := hl
  refine lv_iload_n hx hb dX8_isStretch_0 rfl (lv_at hl 2 rfl) ?_
  refine z_if_lt (tgt := 22) hx hb (by omega) dX8_isStretch_1 (by decide) (fun c1 => ?_) (fun c1 => ?_)
  · refine z_iconst hx hb dX8_isStretch_22 ?_
    exact s_zret hx hb hr hlocks ((bI_f (by omega)).symm) dX8_isStretch_23
  · refine lv_iload_n hx hb dX8_isStretch_4 rfl (lv_at hl 2 rfl) ?_
    refine lv_iload_n hx hb dX8_isStretch_5 rfl (lv_at hl 3 rfl) ?_
    refine z_icmp_ge (tgt := 22) hx hb (by omega) (by omega) dX8_isStretch_6 (by decide) (fun c2 => ?_) (fun c2 => ?_)
    · refine z_iconst hx hb dX8_isStretch_22 ?_
      exact s_zret hx hb hr hlocks ((bI_f (by omega)).symm) dX8_isStretch_23
    · refine lv_iload_n hx hb dX8_isStretch_9 rfl (lv_at hl 3 rfl) ?_
      refine lv_aload_n hx hb dX8_isStretch_10 rfl (lv_at hl 0 rfl) ?_
      refine lv_iload_n hx hb dX8_isStretch_11 rfl (lv_at hl 1 rfl) ?_
      refine m_call (n := 1) (As := [.int (iI ((h : Int)))]) (rest := [.int (iI (b))]) hx hb hml hts hown hK hW (c8_endOf l D cI cZ ad τ hI h (h : Int) (by omega) (by omega)) gX8_isStretch_X8_endOf rfl rfl rfl (by decide +kernel) ⟨by decide, by decide⟩ rfl hl.1 rfl (Nat.le_of_ble_eq_true rfl) ⟨Nat.zero_le _, Nat.zero_le _⟩ dX8_isStretch_12 ?_
      have r3 := en_r hI h
      refine z_icmp_gt (tgt := 22) hx hb (by omega) (by omega) dX8_isStretch_15 (by decide) (fun c4 => ?_) (fun c4 => ?_)
      · refine z_iconst hx hb dX8_isStretch_22 ?_
        exact s_zret hx hb hr hlocks ((bI_f (by omega)).symm) dX8_isStretch_23
      · refine z_iconst hx hb dX8_isStretch_18 ?_
        refine lv_goto (tgt := 23) hx hb dX8_isStretch_19 (by decide) ?_
        exact s_zret hx hb hr hlocks ((bI_t (by omega)).symm) dX8_isStretch_23
set_option maxHeartbeats 4000000 in
set_option maxRecDepth 100000 in
theorem c8_common (l : Launch) (a : Int) (h_a : I32 a) (b : Int) (h_b : I32 b) (u : Int) (h_u : I32 u) (v : Int) (h_v : I32 v) (hc : b - a ≤ 2147483647 ∧ v - u ≤ 2147483647) : Met l yX8_common wsX8_common { frames := 0, cells := 0, slots := 0, locals := 0 } (sPc [.int (iI (a)), .int (iI (b)), .int (iI (u)), .int (iI (v))]) (rS (cm a b u v)) 0 0 NoA := by
  refine s_start (by decide) rfl (Nat.le_of_ble_eq_true rfl) ?_
  intro p e s m below meth c hx hb hr hlocks hml hts hown ls hl
  have hl : lv_has ls 6 [(0, .int (iI (a))), (1, .int (iI (b))), (2, .int (iI (u))), (3, .int (iI (v)))] := hl
  refine lv_iload_n hx hb dX8_common_0 rfl (lv_at hl 0 rfl) ?_
  refine lv_iload_n hx hb dX8_common_1 rfl (lv_at hl 2 rfl) ?_
  refine z_icmp_le (tgt := 9) hx hb (by omega) (by omega) dX8_common_2 (by decide) (fun c1 => ?_) (fun c1 => ?_)
  · refine lv_iload_n hx hb dX8_common_9 rfl (lv_at hl 2 rfl) ?_
    refine lv_istore (lv' := [(4, .int (iI (u))), (0, .int (iI (a))), (1, .int (iI (b))), (2, .int (iI (u))), (3, .int (iI (v)))]) hx hb dX8_common_10 hl (by decide) rfl (fun ls hl => ?_)
    refine lv_iload_n hx hb dX8_common_12 rfl (lv_at hl 2 rfl) ?_
    refine lv_iload_n hx hb dX8_common_13 rfl (lv_at hl 4 rfl) ?_
    refine z_icmp_ge (tgt := 21) hx hb (by omega) (by omega) dX8_common_14 (by decide) (fun c2 => ?_) (fun c2 => ?_)
    · refine lv_iload_n hx hb dX8_common_21 rfl (lv_at hl 4 rfl) ?_
      refine lv_istore (lv' := [(5, .int (iI (v))), (4, .int (iI (u))), (0, .int (iI (a))), (1, .int (iI (b))), (2, .int (iI (u))), (3, .int (iI (v)))]) hx hb dX8_common_22 hl (by decide) rfl (fun ls hl => ?_)
      refine lv_iload hx hb dX8_common_24 (lv_at hl 0 rfl) ?_
      refine lv_iload hx hb dX8_common_26 (lv_at hl 1 rfl) ?_
      refine z_icmp_le (tgt := 39) hx hb (by omega) (by omega) dX8_common_28 (by decide) (fun c3 => ?_) (fun c3 => ?_)
      · refine z_iconst hx hb dX8_common_39 ?_
        exact s_iret hx hb hr hlocks (by unfold cm; omega) dX8_common_40
      · refine lv_iload hx hb dX8_common_31 (lv_at hl 0 rfl) ?_
        refine lv_iload hx hb dX8_common_33 (lv_at hl 1 rfl) ?_
        refine z_isub hx hb dX8_common_35 ?_
        refine lv_goto (tgt := 40) hx hb dX8_common_36 (by decide) ?_
        exact s_iret hx hb hr hlocks (by unfold cm; omega) dX8_common_40
    · refine lv_iload_n hx hb dX8_common_17 rfl (lv_at hl 2 rfl) ?_
      refine lv_goto (tgt := 22) hx hb dX8_common_18 (by decide) ?_
      refine lv_istore (lv' := [(5, .int (iI (b))), (4, .int (iI (u))), (0, .int (iI (a))), (1, .int (iI (b))), (2, .int (iI (u))), (3, .int (iI (v)))]) hx hb dX8_common_22 hl (by decide) rfl (fun ls hl => ?_)
      refine lv_iload hx hb dX8_common_24 (lv_at hl 0 rfl) ?_
      refine lv_iload hx hb dX8_common_26 (lv_at hl 1 rfl) ?_
      refine z_icmp_le (tgt := 39) hx hb (by omega) (by omega) dX8_common_28 (by decide) (fun c4 => ?_) (fun c4 => ?_)
      · refine z_iconst hx hb dX8_common_39 ?_
        exact s_iret hx hb hr hlocks (by unfold cm; omega) dX8_common_40
      · refine lv_iload hx hb dX8_common_31 (lv_at hl 0 rfl) ?_
        refine lv_iload hx hb dX8_common_33 (lv_at hl 1 rfl) ?_
        refine z_isub hx hb dX8_common_35 ?_
        refine lv_goto (tgt := 40) hx hb dX8_common_36 (by decide) ?_
        exact s_iret hx hb hr hlocks (by unfold cm; omega) dX8_common_40
  · refine lv_iload_n hx hb dX8_common_5 rfl (lv_at hl 0 rfl) ?_
    refine lv_goto (tgt := 10) hx hb dX8_common_6 (by decide) ?_
    refine lv_istore (lv' := [(4, .int (iI (a))), (0, .int (iI (a))), (1, .int (iI (b))), (2, .int (iI (u))), (3, .int (iI (v)))]) hx hb dX8_common_10 hl (by decide) rfl (fun ls hl => ?_)
    refine lv_iload_n hx hb dX8_common_12 rfl (lv_at hl 2 rfl) ?_
    refine lv_iload_n hx hb dX8_common_13 rfl (lv_at hl 4 rfl) ?_
    refine z_icmp_ge (tgt := 21) hx hb (by omega) (by omega) dX8_common_14 (by decide) (fun c5 => ?_) (fun c5 => ?_)
    · refine lv_iload_n hx hb dX8_common_21 rfl (lv_at hl 4 rfl) ?_
      refine lv_istore (lv' := [(5, .int (iI (v))), (4, .int (iI (a))), (0, .int (iI (a))), (1, .int (iI (b))), (2, .int (iI (u))), (3, .int (iI (v)))]) hx hb dX8_common_22 hl (by decide) rfl (fun ls hl => ?_)
      refine lv_iload hx hb dX8_common_24 (lv_at hl 0 rfl) ?_
      refine lv_iload hx hb dX8_common_26 (lv_at hl 1 rfl) ?_
      refine z_icmp_le (tgt := 39) hx hb (by omega) (by omega) dX8_common_28 (by decide) (fun c6 => ?_) (fun c6 => ?_)
      · refine z_iconst hx hb dX8_common_39 ?_
        exact s_iret hx hb hr hlocks (by unfold cm; omega) dX8_common_40
      · refine lv_iload hx hb dX8_common_31 (lv_at hl 0 rfl) ?_
        refine lv_iload hx hb dX8_common_33 (lv_at hl 1 rfl) ?_
        refine z_isub hx hb dX8_common_35 ?_
        refine lv_goto (tgt := 40) hx hb dX8_common_36 (by decide) ?_
        exact s_iret hx hb hr hlocks (by unfold cm; omega) dX8_common_40
    · refine lv_iload_n hx hb dX8_common_17 rfl (lv_at hl 2 rfl) ?_
      refine lv_goto (tgt := 22) hx hb dX8_common_18 (by decide) ?_
      refine lv_istore (lv' := [(5, .int (iI (b))), (4, .int (iI (a))), (0, .int (iI (a))), (1, .int (iI (b))), (2, .int (iI (u))), (3, .int (iI (v)))]) hx hb dX8_common_22 hl (by decide) rfl (fun ls hl => ?_)
      refine lv_iload hx hb dX8_common_24 (lv_at hl 0 rfl) ?_
      refine lv_iload hx hb dX8_common_26 (lv_at hl 1 rfl) ?_
      refine z_icmp_le (tgt := 39) hx hb (by omega) (by omega) dX8_common_28 (by decide) (fun c7 => ?_) (fun c7 => ?_)
      · refine z_iconst hx hb dX8_common_39 ?_
        exact s_iret hx hb hr hlocks (by unfold cm; omega) dX8_common_40
      · refine lv_iload hx hb dX8_common_31 (lv_at hl 0 rfl) ?_
        refine lv_iload hx hb dX8_common_33 (lv_at hl 1 rfl) ?_
        refine z_isub hx hb dX8_common_35 ?_
        refine lv_goto (tgt := 40) hx hb dX8_common_36 (by decide) ?_
        exact s_iret hx hb hr hlocks (by unfold cm; omega) dX8_common_40
set_option maxHeartbeats 4000000 in
set_option maxRecDepth 100000 in
theorem c8_end (l : Launch) (D : va_G) (cI cZ : ClassId) (ad : Nat → Nat) (τ : Tau) (hI : Rng τ) (a : Int) (h_a : I32 a)  : Met l yX8_end wsX8_end { frames := 2, cells := 0, slots := 0, locals := 46 } (mPc D cI cZ ad τ [.ref (ad 0), .int (iI (a))]) (rS (spEnd τ a)) 0 0 NoA := by
  refine m_start (by decide) rfl (Nat.le_of_ble_eq_true rfl) ?_
  intro p e s m below meth c hx hb hr hlocks hml hts hown hW hK ls hl
  have hin8 : ∀ w ∈ wsX80, w ∈ wsX8_end := by decide +kernel
  have hl : lv_has ls 2 [(0, .ref (ad 0)), (1, .int (iI (a)))] := hl
  refine lv_aload_n hx hb dX8_end_0 rfl (lv_at hl 0 rfl) ?_
  refine lv_iload_n hx hb dX8_end_1 rfl (lv_at hl 1 rfl) ?_
  refine m_call (n := 1) (As := [.int (iI (a))]) (rest := []) hx hb hml hts hown hK hW (c8_isHole l D cI cZ ad τ hI a (by omega)) gX8_end_X8_isHole rfl rfl rfl (by decide +kernel) ⟨by decide, by decide⟩ rfl hl.1 rfl (Nat.le_of_ble_eq_true rfl) ⟨Nat.zero_le _, Nat.zero_le _⟩ dX8_end_2 ?_
  have r1 := (show (0 : Int) ≤ τ 0 0 ∧ τ 0 0 ≤ 4 from hI 0 0)
  refine z_if_eqB (tgt := 16) hx hb dX8_end_5 (by decide) (fun c2 => ?_) (fun c2 => ?_)
  · refine z_bipush hx hb dX8_end_16 (by decide) ?_
    exact s_iret hx hb hr hlocks (by unfold spEnd; (first | rw [if_pos (by omega)] | rw [if_neg (by omega)])) dX8_end_18
  · refine lv_aload_n hx hb dX8_end_8 rfl (lv_at hl 0 rfl) ?_
    refine lv_iload_n hx hb dX8_end_9 rfl (lv_at hl 1 rfl) ?_
    refine m_call (n := 1) (As := [.int (iI (a))]) (rest := []) hx hb hml hts hown hK hW (c8_endOf l D cI cZ ad τ hI a.toNat a (by omega) (by omega)) gX8_end_X8_endOf rfl rfl rfl (by decide +kernel) ⟨by decide, by decide⟩ rfl hl.1 rfl (Nat.le_of_ble_eq_true rfl) ⟨Nat.zero_le _, Nat.zero_le _⟩ dX8_end_10 ?_
    have r3 := en_r hI a.toNat
    refine lv_goto (tgt := 18) hx hb dX8_end_13 (by decide) ?_
    exact s_iret hx hb hr hlocks (by unfold spEnd; (first | rw [if_pos (by omega)] | rw [if_neg (by omega)])) dX8_end_18
set_option maxHeartbeats 4000000 in
set_option maxRecDepth 100000 in
theorem c8_isUsed (l : Launch) (D : va_G) (cI cZ : ClassId) (ad : Nat → Nat) (τ : Tau) (hI : Rng τ) (h : Nat) (zh : Int) (hzh : zh = (h : Int)) (h0 : h < 4) : Met l yX8_isUsed wsX8_isUsed { frames := 0, cells := 0, slots := 0, locals := 0 } (mPc D cI cZ ad τ [.ref (ad 0), .int (iI zh)]) (rS (bI (usO τ h = true))) 0 0 NoA := by
  subst hzh
  refine m_start (by decide) rfl (Nat.le_of_ble_eq_true rfl) ?_
  intro p e s m below meth c hx hb hr hlocks hml hts hown hW hK ls hl
  have hin8 : ∀ w ∈ wsX80, w ∈ wsX8_isUsed := by decide +kernel
  have hl : lv_has ls 4 [(0, .ref (ad 0)), (1, .int (iI ((h : Int))))] := hl
  obtain ⟨N, hN⟩ : ∃ N : Nat, τ 12 0 = N := ⟨(τ 12 0).toNat, by have : (0 : Int) ≤ τ 12 0 ∧ τ 12 0 ≤ 30 := hI 12 0; omega⟩
  have hN2 : (τ 12 0).toNat = N := by omega
  have hN3 : N ≤ 30 := by have : (0 : Int) ≤ τ 12 0 ∧ τ 12 0 ≤ 30 := hI 12 0; omega
  have jn29 : ∀ xj : Int, xj = bI (usK τ h 0 = true) → ∀ ls : Array Slot, lv_has ls 4 [(0, .ref (ad 0)), (1, .int (iI ((h : Int))))] → W p l e { frames := 0, cells := 0, slots := 0, locals := 0 } s m [.ref (ad 0), .int (iI ((h : Int)))].toArray below meth c s.heap [] 0 0 (MQ below (rS (bI (usO τ h = true))) [.ref (ad 0), .int (iI ((h : Int)))].toArray s 0 0 (NoA)) (F0 m 29 ls (.int (iI xj) :: [])) := by
    intro xj ej ls hl
    subst ej
    refine lv_istore_n (lv' := [(2, .int (iI (bI (usK τ h 0 = true)))), (0, .ref (ad 0)), (1, .int (iI ((h : Int))))]) hx hb dX8_isUsed_29 rfl hl (by decide) rfl (fun ls hl => ?_)
    refine z_iconst hx hb dX8_isUsed_30 ?_
    refine lv_istore_n (lv' := [(3, .int (iI (0))), (2, .int (iI (bI (usK τ h 0 = true)))), (0, .ref (ad 0)), (1, .int (iI ((h : Int))))]) hx hb dX8_isUsed_31 rfl hl (by decide) rfl (fun ls hl => ?_)
    have lp32 : ∀ (n32 k : Nat) (x2 x3 : Int), x2 = bI (usK τ h k = true) → x3 = (k : Int) → k ≤ N → N + 1 ≤ k + n32 → ∀ ls : Array Slot, lv_has ls 4 [(2, .int (iI (x2))), (3, .int (iI (x3))), (0, .ref (ad 0)), (1, .int (iI ((h : Int))))] → W p l e { frames := 0, cells := 0, slots := 0, locals := 0 } s m [.ref (ad 0), .int (iI ((h : Int)))].toArray below meth c s.heap [] 0 0 (MQ below (rS (bI (usO τ h = true))) [.ref (ad 0), .int (iI ((h : Int)))].toArray s 0 0 (NoA)) (F0 m 32 ls []) := by
      intro n32
      induction n32 with
      | zero => intro k x2 x3 ex2 ex3 hk1 hk2; exact absurd hk2 (by omega)
      | succ n32 ih32 =>
        intro k x2 x3 ex2 ex3 hk1 hk2  ls hl
        subst ex2
        subst ex3
        refine lv_iload_n hx hb dX8_isUsed_32 rfl (lv_at hl 1 rfl) ?_
        refine lv_aload_n hx hb dX8_isUsed_33 rfl (lv_at hl 2 rfl) ?_
        refine m_get hx hb hts hin8 hown hK hW 12 (by decide) (hts _ (by decide +kernel)) (v := .int (iI (τ 12 0))) rfl dX8_isUsed_34 ?_
        have r1 : (0 : Int) ≤ τ 12 0 ∧ τ 12 0 ≤ 30 := hI 12 0
        refine z_icmp_ge (tgt := 66) hx hb (by omega) (by omega) dX8_isUsed_37 (by decide) (fun c2 => ?_) (fun c2 => ?_)
        · refine lv_iload_n hx hb dX8_isUsed_66 rfl (lv_at hl 0 rfl) ?_
          exact s_zret hx hb hr hlocks (by unfold usO; rw [hN2, show N = k by omega]) dX8_isUsed_67
        · have jn59 : ∀ xj : Int, xj = bI (usK τ h (k + 1) = true) → ∀ ls : Array Slot, lv_has ls 4 [(2, .int (iI (bI (usK τ h k = true)))), (3, .int (iI ((k : Int)))), (0, .ref (ad 0)), (1, .int (iI ((h : Int))))] → W p l e { frames := 0, cells := 0, slots := 0, locals := 0 } s m [.ref (ad 0), .int (iI ((h : Int)))].toArray below meth c s.heap [] 0 0 (MQ below (rS (bI (usO τ h = true))) [.ref (ad 0), .int (iI ((h : Int)))].toArray s 0 0 (NoA)) (F0 m 59 ls (.int (iI xj) :: [])) := by
            intro xj ej ls hl
            subst ej
            refine lv_istore_n (lv' := [(2, .int (iI (bI (usK τ h (k + 1) = true)))), (3, .int (iI ((k : Int)))), (0, .ref (ad 0)), (1, .int (iI ((h : Int))))]) hx hb dX8_isUsed_59 rfl hl (by decide) rfl (fun ls hl => ?_)
            refine z_iinc (k := 1) (lv' := [(3, .int (iI ((k : Int) + 1))), (2, .int (iI (bI (usK τ h (k + 1) = true)))), (0, .ref (ad 0)), (1, .int (iI ((h : Int))))]) hx hb dX8_isUsed_60 hl rfl (by decide) rfl (fun ls hl => ?_)
            refine lv_goto (tgt := 32) hx hb dX8_isUsed_63 (by decide) ?_
            exact ih32 (k + 1) (bI (usK τ h (k + 1) = true)) ((k : Int) + 1) rfl (by omega) (by omega) (by omega)  ls (lv_sub hl [1, 0, 2, 3] rfl)
          refine lv_iload_n hx hb dX8_isUsed_40 rfl (lv_at hl 0 rfl) ?_
          refine z_if_neB (tgt := 54) hx hb dX8_isUsed_41 (by decide) (fun c3 => ?_) (fun c3 => ?_)
          · refine z_iconst hx hb dX8_isUsed_54 ?_
            refine lv_goto (tgt := 59) hx hb dX8_isUsed_55 (by decide) ?_
            exact jn59 1 (by first | rw [bI_t (by rw [usK_s, c3]; rfl)] | rw [bI_t (by rw [usK_s]; simp [c3])]) ls (lv_sub hl [0, 1, 2, 3] rfl)
          · refine lv_aload_n hx hb dX8_isUsed_44 rfl (lv_at hl 2 rfl) ?_
            refine m_get hx hb hts hin8 hown hK hW 13 (by decide) (hts _ (by decide +kernel)) (v := .ref (ad 13)) rfl dX8_isUsed_45 ?_
            refine lv_iload_n hx hb dX8_isUsed_48 rfl (lv_at hl 1 rfl) ?_
            refine m_ald (d := 13) (j := k) hx hb hK hW rfl (by omega) (show k < 30 from by omega) dX8_isUsed_49 ?_
            have r4 : (0 : Int) ≤ τ 13 k ∧ τ 13 k ≤ 3 := hI 13 k
            refine lv_iload_n hx hb dX8_isUsed_50 rfl (lv_at hl 3 rfl) ?_
            refine z_icmp_ne (tgt := 58) hx hb (by omega) (by omega) dX8_isUsed_51 (by decide) (fun c5 => ?_) (fun c5 => ?_)
            · refine z_iconst hx hb dX8_isUsed_58 ?_
              exact jn59 0 (by rw [bI_f (by rw [usK_s]; simp [c5, c3])]) ls (lv_sub hl [0, 1, 2, 3] rfl)
            · refine z_iconst hx hb dX8_isUsed_54 ?_
              refine lv_goto (tgt := 59) hx hb dX8_isUsed_55 (by decide) ?_
              exact jn59 1 (by first | rw [bI_t (by rw [usK_s, c5]; rfl)] | rw [bI_t (by rw [usK_s]; simp [c5])]) ls (lv_sub hl [0, 1, 2, 3] rfl)
    exact lp32 (N + 1) 0 (bI (usK τ h 0 = true)) 0 rfl (by omega) (by omega) (by omega)  ls (lv_sub hl [1, 0, 2, 3] rfl)
  refine lv_aload_n hx hb dX8_isUsed_0 rfl (lv_at hl 0 rfl) ?_
  refine m_get hx hb hts hin8 hown hK hW 8 (by decide) (hts _ (by decide +kernel)) (v := .ref (ad 8)) rfl dX8_isUsed_1 ?_
  refine z_iconst hx hb dX8_isUsed_4 ?_
  refine lv_iload_n hx hb dX8_isUsed_5 rfl (lv_at hl 1 rfl) ?_
  refine z_imul hx hb dX8_isUsed_6 ?_
  refine m_ald (d := 8) (j := 2 * h) hx hb hK hW rfl (by omega) (show 2 * h < 8 from by omega) dX8_isUsed_7 ?_
  have r6 : (0 : Int) ≤ τ 8 (2 * h) ∧ τ 8 (2 * h) ≤ 20 := hI 8 (2 * h)
  refine z_if_gt (tgt := 24) hx hb (by omega) dX8_isUsed_8 (by decide) (fun c7 => ?_) (fun c7 => ?_)
  · refine z_iconst hx hb dX8_isUsed_24 ?_
    refine lv_goto (tgt := 29) hx hb dX8_isUsed_25 (by decide) ?_
    exact jn29 1 (bI_t (by simp [usK, exs]; omega)).symm ls (lv_sub hl [0, 1] rfl)
  · refine lv_aload_n hx hb dX8_isUsed_11 rfl (lv_at hl 0 rfl) ?_
    refine m_get hx hb hts hin8 hown hK hW 8 (by decide) (hts _ (by decide +kernel)) (v := .ref (ad 8)) rfl dX8_isUsed_12 ?_
    refine z_iconst hx hb dX8_isUsed_15 ?_
    refine lv_iload_n hx hb dX8_isUsed_16 rfl (lv_at hl 1 rfl) ?_
    refine z_imul hx hb dX8_isUsed_17 ?_
    refine z_iconst hx hb dX8_isUsed_18 ?_
    refine z_iadd hx hb dX8_isUsed_19 ?_
    refine m_ald (d := 8) (j := (2 * h) + 1) hx hb hK hW rfl (by omega) (show (2 * h) + 1 < 8 from by omega) dX8_isUsed_20 ?_
    have r8 : (0 : Int) ≤ τ 8 ((2 * h) + 1) ∧ τ 8 ((2 * h) + 1) ≤ 20 := hI 8 ((2 * h) + 1)
    refine z_if_le (tgt := 28) hx hb (by omega) dX8_isUsed_21 (by decide) (fun c9 => ?_) (fun c9 => ?_)
    · refine z_iconst hx hb dX8_isUsed_28 ?_
      exact jn29 0 (bI_f (by simp [usK, exs]; omega)).symm ls (lv_sub hl [0, 1] rfl)
    · refine z_iconst hx hb dX8_isUsed_24 ?_
      refine lv_goto (tgt := 29) hx hb dX8_isUsed_25 (by decide) ?_
      exact jn29 1 (bI_t (by simp [usK, exs]; omega)).symm ls (lv_sub hl [0, 1] rfl)
