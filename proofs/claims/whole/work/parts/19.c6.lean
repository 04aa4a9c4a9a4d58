theorem ab_far (a b : Int) : abI (a - b) = farI a b := by unfold abI farI; split <;> split <;> omega
theorem far_r2 {a b : Int} (ha : -20000 ≤ a ∧ a ≤ 20000) (hb : -20000 ≤ b ∧ b ≤ 20000) : 0 ≤ farI a b ∧ farI a b ≤ 40000 := by unfold farI; split <;> omega
theorem CS_0 {τ : Tau} {h g N M : Nat} (hN : (τ 8 (2 * h)).toNat = N) (hM : (τ 8 (2 * g)).toNat = M) : ∀ {q : Nat}, q ≤ M → CS τ h g 0 q = frO τ (2 * g) M - frO τ (2 * g) (M - q)
  | 0, _ => by rw [Nat.sub_zero, Int.sub_self]; rfl
  | q + 1, hq => by
    have ih := CS_0 (q := q) hN hM (by omega)
    rw [CS_0c hN hM (by omega), Nat.add_sub_cancel, ih, show M - q = M - (q + 1) + 1 by omega, fr_s]
    omega
theorem CS_c {τ : Tau} {h g N M : Nat} (hN : (τ 8 (2 * h)).toNat = N) (hM : (τ 8 (2 * g)).toNat = M) : ∀ {r : Nat}, r ≤ N → CS τ h g r 0 = frO τ (2 * h) N - frO τ (2 * h) (N - r)
  | 0, _ => by rw [Nat.sub_zero, Int.sub_self]; rfl
  | r + 1, hr => by
    have ih := CS_c (r := r) hN hM (by omega)
    rw [CS_r0 hN hM (by omega), Nat.add_sub_cancel, ih, show N - r = N - (r + 1) + 1 by omega, fr_s]
    omega
theorem lp_r {τ : Tau} (hR : Rng τ) (h g i f : Nat) (hf : f ≤ (τ 8 (2 * g)).toNat) : -1 ≤ lpI τ h g i f ∧ lpI τ h g i f < 20 := by
  have h1 := ff_1 (lpB τ h g i f) ((τ 8 (2 * g)).toNat - f)
  have h2 : (0 : Int) ≤ τ 8 (2 * g) ∧ τ 8 (2 * g) ≤ 20 := hR 8 _
  unfold lpI pfI
  split <;> omega

set_option maxHeartbeats 4000000 in
set_option maxRecDepth 100000 in
theorem c3_isAlike (l : Launch) (D : va_G) (cT : Nat → ClassId) (ad : Adr) (τ ρ : Tau) (hI : Rng τ) (h : Nat) (hlh : (h : Int) < τ 0 0) (g : Nat) (hlg : (g : Int) < τ 0 0) (i : Nat) (zi : Int) (hzi : zi = (i : Int)) (j : Nat) (zj : Int) (hzj : zj = (j : Int)) (hi : i < 20) (hj : j < 20) : Met l yX3_isAlike wsX3_isAlike { frames := 0, cells := 0, slots := 0, locals := 0 } (cPc D cT ad τ ρ [.int (iI zi), .int (iI zj), .ref (ad 15 (2 * h)), .ref (ad 15 (2 * g)), .ref (ad 4 0)]) (rS (bI (cdO τ (2 * h) i = cdO τ (2 * g) j))) 0 0 (NoA) := by
  subst hzi
  subst hzj
  refine c_start (by decide) rfl (Nat.le_of_ble_eq_true rfl) ?_
  intro p e s m below meth c hx hb hr hlocks hml hts hown hW hK hNW ls hl
  have hinX2 : ∀ w ∈ wsX20, w ∈ wsX3_isAlike := by decide +kernel
  have hl : lv_has ls 5 [(0, .int (iI ((i : Int)))), (1, .int (iI ((j : Int)))), (2, .ref (ad 15 (2 * h))), (3, .ref (ad 15 (2 * g))), (4, .ref (ad 4 0))] := hl
  have hc1 : (0 : Int) ≤ τ 10 (20 * (2 * h) + i) ∧ τ 10 (20 * (2 * h) + i) ≤ 9 := hI 10 _
  have hc2 : (0 : Int) ≤ τ 10 (20 * (2 * g) + j) ∧ τ 10 (20 * (2 * g) + j) ≤ 9 := hI 10 _
  refine lv_aload hx hb dX3_isAlike_0 (lv_at hl 4 rfl) ?_
  refine lv_aload_n hx hb dX3_isAlike_2 rfl (lv_at hl 2 rfl) ?_
  refine y_get (C := RX2) (T := TX2) (N := 3) (ref := "CoreShed$Log") (ci := 2) hx hb hts hinX2 hown hK (cw15 hW (i := 2 * h) (by omega)) rfl 1 (by decide) (hts _ (by decide +kernel)) rfl (v := .ref (ad 17 (2 * h))) rfl dX3_isAlike_3 ?_
  refine lv_iload_n hx hb dX3_isAlike_6 rfl (lv_at hl 0 rfl) ?_
  refine y_iald (j := i) hx hb hK 0 (cw17 hW (i := 2 * h) (by omega)) rfl (by omega) (by omega) (by decide) dX3_isAlike_7 ?_
  have r1 : (0 : Int) ≤ τ 10 (20 * (2 * h) + i) ∧ τ 10 (20 * (2 * h) + i) ≤ 9 := hI 10 (20 * (2 * h) + i)
  refine y_iald (j := (τ 10 (20 * (2 * h) + i)).toNat) hx hb hK 0 (cw4 hW) rfl (by omega) (by omega) (by decide) dX3_isAlike_8 ?_
  have r2 : (0 : Int) ≤ τ 11 ((τ 10 (20 * (2 * h) + i)).toNat) ∧ τ 11 ((τ 10 (20 * (2 * h) + i)).toNat) ≤ 9 := hI 11 ((τ 10 (20 * (2 * h) + i)).toNat)
  refine lv_aload hx hb dX3_isAlike_9 (lv_at hl 4 rfl) ?_
  refine lv_aload_n hx hb dX3_isAlike_11 rfl (lv_at hl 3 rfl) ?_
  refine y_get (C := RX2) (T := TX2) (N := 3) (ref := "CoreShed$Log") (ci := 2) hx hb hts hinX2 hown hK (cw15 hW (i := 2 * g) (by omega)) rfl 1 (by decide) (hts _ (by decide +kernel)) rfl (v := .ref (ad 17 (2 * g))) rfl dX3_isAlike_12 ?_
  refine lv_iload_n hx hb dX3_isAlike_15 rfl (lv_at hl 1 rfl) ?_
  refine y_iald (j := j) hx hb hK 0 (cw17 hW (i := 2 * g) (by omega)) rfl (by omega) (by omega) (by decide) dX3_isAlike_16 ?_
  have r3 : (0 : Int) ≤ τ 10 (20 * (2 * g) + j) ∧ τ 10 (20 * (2 * g) + j) ≤ 9 := hI 10 (20 * (2 * g) + j)
  refine y_iald (j := (τ 10 (20 * (2 * g) + j)).toNat) hx hb hK 0 (cw4 hW) rfl (by omega) (by omega) (by decide) dX3_isAlike_17 ?_
  have r4 : (0 : Int) ≤ τ 11 ((τ 10 (20 * (2 * g) + j)).toNat) ∧ τ 11 ((τ 10 (20 * (2 * g) + j)).toNat) ≤ 9 := hI 11 ((τ 10 (20 * (2 * g) + j)).toNat)
  refine z_icmp_ne (tgt := 25) hx hb (by omega) (by omega) dX3_isAlike_18 (by decide) (fun c5 => ?_) (fun c5 => ?_)
  · refine z_iconst hx hb dX3_isAlike_25 ?_
    exact s_zret hx hb hr hlocks ((bI_f (show ¬ cdO τ (2 * h) i = cdO τ (2 * g) j from c5)).symm) dX3_isAlike_26
  · refine z_iconst hx hb dX3_isAlike_21 ?_
    refine lv_goto (tgt := 26) hx hb dX3_isAlike_22 (by decide) ?_
    exact s_zret hx hb hr hlocks ((bI_t (show cdO τ (2 * h) i = cdO τ (2 * g) j from c5)).symm) dX3_isAlike_26
set_option maxHeartbeats 4000000 in
set_option maxRecDepth 100000 in
theorem c3_pairedSum (l : Launch) (D : va_G) (cT : Nat → ClassId) (ad : Adr) (τ ρ : Tau) (hI : Rng τ) (h : Nat) (hlh : (h : Int) < τ 0 0) (g : Nat) (hlg : (g : Int) < τ 0 0) (i : Nat) (zi : Int) (hzi : zi = (i : Int)) (j : Nat) (zj : Int) (hzj : zj = (j : Int)) (hi : i < 20) (hj : j < 20) : Met l yX3_pairedSum wsX3_pairedSum { frames := 2, cells := 0, slots := 0, locals := 42 } (cPc D cT ad τ ρ [.ref (ad 8 0), .int (iI zi), .int (iI zj), .ref (ad 15 (2 * h)), .ref (ad 15 (2 * g))]) (rS (farI (thO τ (2 * h) i) (thO τ (2 * g) j) + ρ (2 + (i + 1)) (j + 1))) 0 0 (NoA) := by
  subst hzi
  subst hzj
  refine c_start (by decide) rfl (Nat.le_of_ble_eq_true rfl) ?_
  intro p e s m below meth c hx hb hr hlocks hml hts hown hW hK hNW ls hl
  have hinX3 : ∀ w ∈ wsX30, w ∈ wsX3_pairedSum := by decide +kernel
  have hl : lv_has ls 5 [(0, .ref (ad 8 0)), (1, .int (iI ((i : Int)))), (2, .int (iI ((j : Int)))), (3, .ref (ad 15 (2 * h))), (4, .ref (ad 15 (2 * g)))] := hl
  refine lv_aload_n hx hb dX3_pairedSum_0 rfl (lv_at hl 3 rfl) ?_
  refine lv_iload_n hx hb dX3_pairedSum_1 rfl (lv_at hl 1 rfl) ?_
  refine c_call (n := 1) (As := [.int (iI ((i : Int)))]) (rest := []) hx hb hml hts hown hK hNW hW (va_recv hK (cw15 hW (i := 2 * h) (by omega)) (ci := 2) (q0 := 0) rfl rfl) (c2_thickness l D cT ad τ ρ hI (2 * h) (by omega) i (i : Int) (by omega) (by omega)) gX3_pairedSum_X2_thickness rfl rfl rfl (by decide +kernel) ⟨by decide, by decide⟩ rfl hl.1 rfl (Nat.le_of_ble_eq_true rfl) ⟨Nat.zero_le _, Nat.zero_le _⟩ dX3_pairedSum_2 ?_
  have r1 := th_r hI (2 * h) i
  refine lv_aload hx hb dX3_pairedSum_5 (lv_at hl 4 rfl) ?_
  refine lv_iload_n hx hb dX3_pairedSum_7 rfl (lv_at hl 2 rfl) ?_
  refine c_call (n := 1) (As := [.int (iI ((j : Int)))]) (rest := [.int (iI (thO τ (2 * h) i))]) hx hb hml hts hown hK hNW hW (va_recv hK (cw15 hW (i := 2 * g) (by omega)) (ci := 2) (q0 := 0) rfl rfl) (c2_thickness l D cT ad τ ρ hI (2 * g) (by omega) j (j : Int) (by omega) (by omega)) gX3_pairedSum_X2_thickness rfl rfl rfl (by decide +kernel) ⟨by decide, by decide⟩ rfl hl.1 rfl (Nat.le_of_ble_eq_true rfl) ⟨Nat.zero_le _, Nat.zero_le _⟩ dX3_pairedSum_8 ?_
  have r2 := th_r hI (2 * g) j
  refine z_isub hx hb dX3_pairedSum_11 ?_
  refine z_mabs (own := RX3) hx hb (hml.trans hl.1.symm) hown (hts (.methodLink RX3 55 Lib.Math.abs.name) (by decide +kernel)) (hts (.static Lib.Math.abs.name) (by decide +kernel)) (hts (.initialized "java/lang/Math") (by decide +kernel)) (hts (.code Lib.Math.abs.name Lib.Math.abs.code 1 (some .int)) (by decide +kernel)) (by decide) (Nat.le_of_ble_eq_true rfl) (Nat.zero_le _) (Nat.zero_le _) (by omega) dX3_pairedSum_12 ?_
  refine z_top (show abI ((thO τ (2 * h) i) - (thO τ (2 * g) j)) = farI (thO τ (2 * h) i) (thO τ (2 * g) j) from ab_far _ _) ?_
  refine lv_aload_n hx hb dX3_pairedSum_15 rfl (lv_at hl 0 rfl) ?_
  refine y_get (C := RX3) (T := TX3) (N := 1) (ref := "CoreShed$Matching") (ci := 3) hx hb hts hinX3 hown hK (cw8 hW) rfl 0 (by decide) (hts _ (by decide +kernel)) rfl (v := .ref (ad 9 0)) rfl dX3_pairedSum_16 ?_
  refine lv_iload_n hx hb dX3_pairedSum_19 rfl (lv_at hl 1 rfl) ?_
  refine z_iconst hx hb dX3_pairedSum_20 ?_
  refine z_iadd hx hb dX3_pairedSum_21 ?_
  refine y_aaldS (ty := .array .int) (j := i + 1) (q := ad 10 (i + 1)) hx hb hK 6 rfl (cw9 hW) rfl (by omega) (by omega) (by decide) rfl dX3_pairedSum_22 ?_
  refine lv_iload_n hx hb dX3_pairedSum_23 rfl (lv_at hl 2 rfl) ?_
  refine z_iconst hx hb dX3_pairedSum_24 ?_
  refine z_iadd hx hb dX3_pairedSum_25 ?_
  refine y_iald (j := j + 1) hx hb hK 0 (cw10 hW (i := i + 1) (by omega)) rfl (by omega) (by omega) (by decide) dX3_pairedSum_26 ?_
  refine z_iadd hx hb dX3_pairedSum_27 ?_
  exact s_iret hx hb hr hlocks (rfl) dX3_pairedSum_28
set_option maxHeartbeats 4000000 in
set_option maxRecDepth 100000 in
theorem c3_leastFrom (l : Launch) (D : va_G) (cT : Nat → ClassId) (ad : Adr) (τ ρ : Tau) (hI : Rng τ) (h : Nat) (hlh : (h : Int) < τ 0 0) (g : Nat) (hlg : (g : Int) < τ 0 0) (i : Nat) (zi : Int) (hzi : zi = (i : Int)) (j : Nat) (zj : Int) (hzj : zj = (j : Int)) (hi : i ≤ (τ 8 (2 * h)).toNat) (hj : j ≤ (τ 8 (2 * g)).toNat) (hρ : ∀ di dj, di ≤ (τ 8 (2 * h)).toNat → dj ≤ (τ 8 (2 * g)).toNat → (di < (τ 8 (2 * h)).toNat - i ∨ di = (τ 8 (2 * h)).toNat - i ∧ dj < (τ 8 (2 * g)).toNat - j) → ρ (2 + ((τ 8 (2 * h)).toNat - di)) ((τ 8 (2 * g)).toNat - dj) = CS τ h g di dj) : Met l yX3_leastFrom wsX3_leastFrom { frames := 3, cells := 0, slots := 0, locals := 66 } (cPc D cT ad τ ρ [.ref (ad 8 0), .int (iI zi), .int (iI zj), .ref (ad 15 (2 * h)), .ref (ad 15 (2 * g)), .ref (ad 4 0)]) (rS (CS τ h g ((τ 8 (2 * h)).toNat - i) ((τ 8 (2 * g)).toNat - j))) 0 0 (NoA) := by
  subst hzi
  subst hzj
  refine c_start (by decide) rfl (Nat.le_of_ble_eq_true rfl) ?_
  intro p e s m below meth c hx hb hr hlocks hml hts hown hW hK hNW ls hl
  have hinX2 : ∀ w ∈ wsX20, w ∈ wsX3_leastFrom := by decide +kernel
  have hinX3 : ∀ w ∈ wsX30, w ∈ wsX3_leastFrom := by decide +kernel
  have hl : lv_has ls 7 [(0, .ref (ad 8 0)), (1, .int (iI ((i : Int)))), (2, .int (iI ((j : Int)))), (3, .ref (ad 15 (2 * h))), (4, .ref (ad 15 (2 * g))), (5, .ref (ad 4 0))] := hl
  obtain ⟨N, hN⟩ : ∃ N : Nat, τ 8 (2 * h) = N := ⟨(τ 8 (2 * h)).toNat, by have : (0 : Int) ≤ τ 8 (2 * h) ∧ τ 8 (2 * h) ≤ 20 := hI 8 (2 * h); omega⟩
  have hN2 : (τ 8 (2 * h)).toNat = N := by omega
  have hN3 : N ≤ 20 := by have : (0 : Int) ≤ τ 8 (2 * h) ∧ τ 8 (2 * h) ≤ 20 := hI 8 (2 * h); omega
  obtain ⟨M, hM⟩ : ∃ N : Nat, τ 8 (2 * g) = N := ⟨(τ 8 (2 * g)).toNat, by have : (0 : Int) ≤ τ 8 (2 * g) ∧ τ 8 (2 * g) ≤ 20 := hI 8 (2 * g); omega⟩
  have hM2 : (τ 8 (2 * g)).toNat = M := by omega
  have hM3 : M ≤ 20 := by have : (0 : Int) ≤ τ 8 (2 * g) ∧ τ 8 (2 * g) ≤ 20 := hI 8 (2 * g); omega
  have hb0 := CS_r hI h g (r := N - i - 1) (q := M - j) (by omega) (by omega)
  have hb1 := CS_r hI h g (r := N - i) (q := M - j - 1) (by omega) (by omega)
  have hb2 := CS_r hI h g (r := N - i - 1) (q := M - j - 1) (by omega) (by omega)
  refine lv_iload_n hx hb dX3_leastFrom_0 rfl (lv_at hl 1 rfl) ?_
  refine lv_aload_n hx hb dX3_leastFrom_1 rfl (lv_at hl 3 rfl) ?_
  refine y_get (C := RX2) (T := TX2) (N := 3) (ref := "CoreShed$Log") (ci := 2) hx hb hts hinX2 hown hK (cw15 hW (i := 2 * h) (by omega)) rfl 2 (by decide) (hts _ (by decide +kernel)) rfl (v := .int (iI (τ 8 (2 * h)))) rfl dX3_leastFrom_2 ?_
  have r1 : (0 : Int) ≤ τ 8 (2 * h) ∧ τ 8 (2 * h) ≤ 20 := hI 8 (2 * h)
  refine z_icmp_ne (tgt := 21) hx hb (by omega) (by omega) dX3_leastFrom_5 (by decide) (fun c2 => ?_) (fun c2 => ?_)
  · refine lv_iload_n hx hb dX3_leastFrom_21 rfl (lv_at hl 2 rfl) ?_
    refine lv_aload hx hb dX3_leastFrom_22 (lv_at hl 4 rfl) ?_
    refine y_get (C := RX2) (T := TX2) (N := 3) (ref := "CoreShed$Log") (ci := 2) hx hb hts hinX2 hown hK (cw15 hW (i := 2 * g) (by omega)) rfl 2 (by decide) (hts _ (by decide +kernel)) rfl (v := .int (iI (τ 8 (2 * g)))) rfl dX3_leastFrom_24 ?_
    have r3 : (0 : Int) ≤ τ 8 (2 * g) ∧ τ 8 (2 * g) ≤ 20 := hI 8 (2 * g)
    refine z_icmp_ne (tgt := 41) hx hb (by omega) (by omega) dX3_leastFrom_27 (by decide) (fun c4 => ?_) (fun c4 => ?_)
    · refine lv_aload_n hx hb dX3_leastFrom_41 rfl (lv_at hl 3 rfl) ?_
      refine lv_iload_n hx hb dX3_leastFrom_42 rfl (lv_at hl 1 rfl) ?_
      refine c_call (n := 1) (As := [.int (iI ((i : Int)))]) (rest := []) hx hb hml hts hown hK hNW hW (va_recv hK (cw15 hW (i := 2 * h) (by omega)) (ci := 2) (q0 := 0) rfl rfl) (c2_thickness l D cT ad τ ρ hI (2 * h) (by omega) i (i : Int) (by omega) (by omega)) gX3_leastFrom_X2_thickness rfl rfl rfl (by decide +kernel) ⟨by decide, by decide⟩ rfl hl.1 rfl (Nat.le_of_ble_eq_true rfl) ⟨Nat.zero_le _, Nat.zero_le _⟩ dX3_leastFrom_43 ?_
      have r5 := th_r hI (2 * h) i
      refine lv_aload_n hx hb dX3_leastFrom_46 rfl (lv_at hl 0 rfl) ?_
      refine y_get (C := RX3) (T := TX3) (N := 1) (ref := "CoreShed$Matching") (ci := 3) hx hb hts hinX3 hown hK (cw8 hW) rfl 0 (by decide) (hts _ (by decide +kernel)) rfl (v := .ref (ad 9 0)) rfl dX3_leastFrom_47 ?_
      refine lv_iload_n hx hb dX3_leastFrom_50 rfl (lv_at hl 1 rfl) ?_
      refine z_iconst hx hb dX3_leastFrom_51 ?_
      refine z_iadd hx hb dX3_leastFrom_52 ?_
      refine y_aaldS (ty := .array .int) (j := i + 1) (q := ad 10 (i + 1)) hx hb hK 6 rfl (cw9 hW) rfl (by omega) (by omega) (by decide) rfl dX3_leastFrom_53 ?_
      refine lv_iload_n hx hb dX3_leastFrom_54 rfl (lv_at hl 2 rfl) ?_
      refine y_iald (j := j) hx hb hK 0 (cw10 hW (i := i + 1) (by omega)) rfl (by omega) (by omega) (by decide) dX3_leastFrom_55 ?_
      refine z_top (show ρ (2 + (i + 1)) j = CS τ h g (N - i - 1) (M - j) from by have hc := hρ (N - i - 1) (M - j) (by omega) (by omega) (Or.inl (by omega)); rw [hN2, hM2, show N - (N - i - 1) = i + 1 by omega, show M - (M - j) = j by omega] at hc; exact hc) ?_
      refine z_iadd hx hb dX3_leastFrom_56 ?_
      refine lv_aload hx hb dX3_leastFrom_57 (lv_at hl 4 rfl) ?_
      refine lv_iload_n hx hb dX3_leastFrom_59 rfl (lv_at hl 2 rfl) ?_
      refine c_call (n := 1) (As := [.int (iI ((j : Int)))]) (rest := [.int (iI ((thO τ (2 * h) i) + (CS τ h g (N - i - 1) (M - j))))]) hx hb hml hts hown hK hNW hW (va_recv hK (cw15 hW (i := 2 * g) (by omega)) (ci := 2) (q0 := 0) rfl rfl) (c2_thickness l D cT ad τ ρ hI (2 * g) (by omega) j (j : Int) (by omega) (by omega)) gX3_leastFrom_X2_thickness rfl rfl rfl (by decide +kernel) ⟨by decide, by decide⟩ rfl hl.1 rfl (Nat.le_of_ble_eq_true rfl) ⟨Nat.zero_le _, Nat.zero_le _⟩ dX3_leastFrom_60 ?_
      have r6 := th_r hI (2 * g) j
      refine lv_aload_n hx hb dX3_leastFrom_63 rfl (lv_at hl 0 rfl) ?_
      refine y_get (C := RX3) (T := TX3) (N := 1) (ref := "CoreShed$Matching") (ci := 3) hx hb hts hinX3 hown hK (cw8 hW) rfl 0 (by decide) (hts _ (by decide +kernel)) rfl (v := .ref (ad 9 0)) rfl dX3_leastFrom_64 ?_
      refine lv_iload_n hx hb dX3_leastFrom_67 rfl (lv_at hl 1 rfl) ?_
      refine y_aaldS (ty := .array .int) (j := i) (q := ad 10 i) hx hb hK 6 rfl (cw9 hW) rfl (by omega) (by omega) (by decide) rfl dX3_leastFrom_68 ?_
      refine lv_iload_n hx hb dX3_leastFrom_69 rfl (lv_at hl 2 rfl) ?_
      refine z_iconst hx hb dX3_leastFrom_70 ?_
      refine z_iadd hx hb dX3_leastFrom_71 ?_
      refine y_iald (j := j + 1) hx hb hK 0 (cw10 hW (i := i) (by omega)) rfl (by omega) (by omega) (by decide) dX3_leastFrom_72 ?_
      refine z_top (show ρ (2 + i) (j + 1) = CS τ h g (N - i) (M - j - 1) from by have hc := hρ (N - i) (M - j - 1) (by omega) (by omega) (Or.inr ⟨by omega, by omega⟩); rw [hN2, hM2, show N - (N - i) = i by omega, show M - (M - j - 1) = j + 1 by omega] at hc; exact hc) ?_
      refine z_iadd hx hb dX3_leastFrom_73 ?_
      refine z_mmin (own := RX3) hx hb (hml.trans hl.1.symm) hown (hts (.methodLink RX3 37 Lib.Math.min.name) (by decide +kernel)) (hts (.static Lib.Math.min.name) (by decide +kernel)) (hts (.initialized "java/lang/Math") (by decide +kernel)) (hts (.code Lib.Math.min.name Lib.Math.min.code 2 (some .int)) (by decide +kernel)) (by decide) (Nat.le_of_ble_eq_true rfl) (Nat.zero_le _) (Nat.zero_le _) (by omega) (by omega) dX3_leastFrom_74 ?_
      refine lv_istore (lv' := [(6, .int (iI (min ((thO τ (2 * h) i) + (CS τ h g (N - i - 1) (M - j))) ((thO τ (2 * g) j) + (CS τ h g (N - i) (M - j - 1)))))), (0, .ref (ad 8 0)), (1, .int (iI ((i : Int)))), (2, .int (iI ((j : Int)))), (3, .ref (ad 15 (2 * h))), (4, .ref (ad 15 (2 * g))), (5, .ref (ad 4 0))]) hx hb dX3_leastFrom_77 hl (by decide) rfl (fun ls hl => ?_)
      refine lv_iload_n hx hb dX3_leastFrom_79 rfl (lv_at hl 2 rfl) ?_
      refine lv_iload_n hx hb dX3_leastFrom_80 rfl (lv_at hl 3 rfl) ?_
      refine lv_aload_n hx hb dX3_leastFrom_81 rfl (lv_at hl 4 rfl) ?_
      refine lv_aload hx hb dX3_leastFrom_82 (lv_at hl 5 rfl) ?_
      refine lv_aload hx hb dX3_leastFrom_84 (lv_at hl 6 rfl) ?_
      refine c_scall (n := 5) (As := [.int (iI ((i : Int))), .int (iI ((j : Int))), .ref (ad 15 (2 * h)), .ref (ad 15 (2 * g)), .ref (ad 4 0)]) (rest := []) hx hb hml hts hown hK hNW hW  (c3_isAlike l D cT ad τ ρ hI h (by omega) g (by omega) i (i : Int) (by omega) j (j : Int) (by omega) (by omega) (by omega)) gX3_leastFrom_X3_isAlike rfl rfl rfl (by decide +kernel) ⟨by decide, by decide⟩ rfl hl.1 rfl (Nat.le_of_ble_eq_true rfl) ⟨Nat.zero_le _, Nat.zero_le _⟩ dX3_leastFrom_86 ?_
      refine z_if_eqB (tgt := 109) hx hb dX3_leastFrom_89 (by decide) (fun c7 => ?_) (fun c7 => ?_)
      · refine lv_iload hx hb dX3_leastFrom_109 (lv_at hl 0 rfl) ?_
        exact s_iret hx hb hr hlocks (by rw [hN2, hM2, CS_na (r := N - i) (q := M - j) hN2 hM2 (by omega) (by omega) (by rw [show N - (N - i) = i by omega, show M - (M - j) = j by omega]; exact c7), show N - (N - i) = i by omega, show M - (M - j) = j by omega]) dX3_leastFrom_111
      · refine lv_iload hx hb dX3_leastFrom_92 (lv_at hl 0 rfl) ?_
        refine lv_aload_n hx hb dX3_leastFrom_94 rfl (lv_at hl 1 rfl) ?_
        refine lv_iload_n hx hb dX3_leastFrom_95 rfl (lv_at hl 2 rfl) ?_
        refine lv_iload_n hx hb dX3_leastFrom_96 rfl (lv_at hl 3 rfl) ?_
        refine lv_aload_n hx hb dX3_leastFrom_97 rfl (lv_at hl 4 rfl) ?_
        refine lv_aload hx hb dX3_leastFrom_98 (lv_at hl 5 rfl) ?_
        refine c_call (n := 4) (As := [.int (iI ((i : Int))), .int (iI ((j : Int))), .ref (ad 15 (2 * h)), .ref (ad 15 (2 * g))]) (rest := [.int (iI (min ((thO τ (2 * h) i) + (CS τ h g (N - i - 1) (M - j))) ((thO τ (2 * g) j) + (CS τ h g (N - i) (M - j - 1)))))]) hx hb hml hts hown hK hNW hW (va_recv hK (cw8 hW) (ci := 3) (q0 := 0) rfl rfl) (c3_pairedSum l D cT ad τ ρ hI h (by omega) g (by omega) i (i : Int) (by omega) j (j : Int) (by omega) (by omega) (by omega)) gX3_leastFrom_X3_pairedSum rfl rfl rfl (by decide +kernel) ⟨by decide, by decide⟩ rfl hl.1 rfl (Nat.le_of_ble_eq_true rfl) ⟨Nat.zero_le _, Nat.zero_le _⟩ dX3_leastFrom_100 ?_
        have r8 := far_r2 (th_r hI (2 * h) i) (th_r hI (2 * g) j)
        refine z_top (show farI (thO τ (2 * h) i) (thO τ (2 * g) j) + ρ (2 + (i + 1)) (j + 1) = farI (thO τ (2 * h) i) (thO τ (2 * g) j) + CS τ h g (N - i - 1) (M - j - 1) from by have hc := hρ (N - i - 1) (M - j - 1) (by omega) (by omega) (Or.inl (by omega)); rw [hN2, hM2, show N - (N - i - 1) = i + 1 by omega, show M - (M - j - 1) = j + 1 by omega] at hc; rw [hc]) ?_
        refine z_mmin (own := RX3) hx hb (hml.trans hl.1.symm) hown (hts (.methodLink RX3 37 Lib.Math.min.name) (by decide +kernel)) (hts (.static Lib.Math.min.name) (by decide +kernel)) (hts (.initialized "java/lang/Math") (by decide +kernel)) (hts (.code Lib.Math.min.name Lib.Math.min.code 2 (some .int)) (by decide +kernel)) (by decide) (Nat.le_of_ble_eq_true rfl) (Nat.zero_le _) (Nat.zero_le _) (by omega) (by omega) dX3_leastFrom_103 ?_
        refine lv_goto (tgt := 111) hx hb dX3_leastFrom_106 (by decide) ?_
        exact s_iret hx hb hr hlocks (by rw [hN2, hM2, CS_al (r := N - i) (q := M - j) hN2 hM2 (by omega) (by omega) (by rw [show N - (N - i) = i by omega, show M - (M - j) = j by omega]; exact c7), show N - (N - i) = i by omega, show M - (M - j) = j by omega]) dX3_leastFrom_111
    · refine lv_aload_n hx hb dX3_leastFrom_30 rfl (lv_at hl 3 rfl) ?_
      refine c_call (n := 0) (As := []) (rest := []) hx hb hml hts hown hK hNW hW (va_recv hK (cw15 hW (i := 2 * h) (by omega)) (ci := 2) (q0 := 0) rfl rfl) (c2_bottom l D cT ad τ ρ hI (2 * h) (by omega)) gX3_leastFrom_X2_bottom rfl rfl rfl (by decide +kernel) ⟨by decide, by decide⟩ rfl hl.1 rfl (Nat.le_of_ble_eq_true rfl) ⟨Nat.zero_le _, Nat.zero_le _⟩ dX3_leastFrom_31 ?_
      have r9 := fr_r hI (2 * h) (τ 8 (2 * h)).toNat
      refine lv_aload_n hx hb dX3_leastFrom_34 rfl (lv_at hl 3 rfl) ?_
      refine lv_iload_n hx hb dX3_leastFrom_35 rfl (lv_at hl 1 rfl) ?_
      refine c_call (n := 1) (As := [.int (iI ((i : Int)))]) (rest := [.int (iI (frO τ (2 * h) (τ 8 (2 * h)).toNat))]) hx hb hml hts hown hK hNW hW (va_recv hK (cw15 hW (i := 2 * h) (by omega)) (ci := 2) (q0 := 0) rfl rfl) (c2_top l D cT ad τ ρ hI (2 * h) (by omega) i (i : Int) (by omega) (by omega)) gX3_leastFrom_X2_top rfl rfl rfl (by decide +kernel) ⟨by decide, by decide⟩ rfl hl.1 rfl (Nat.le_of_ble_eq_true rfl) ⟨Nat.zero_le _, Nat.zero_le _⟩ dX3_leastFrom_36 ?_
      have r10 := fr_r hI (2 * h) i
      refine z_isub hx hb dX3_leastFrom_39 ?_
      exact s_iret hx hb hr hlocks (by rw [hN2, hM2, show M - j = 0 by omega, CS_c hN2 hM2 (by omega), show N - (N - i) = i by omega]) dX3_leastFrom_40
  · refine lv_aload hx hb dX3_leastFrom_8 (lv_at hl 4 rfl) ?_
    refine c_call (n := 0) (As := []) (rest := []) hx hb hml hts hown hK hNW hW (va_recv hK (cw15 hW (i := 2 * g) (by omega)) (ci := 2) (q0 := 0) rfl rfl) (c2_bottom l D cT ad τ ρ hI (2 * g) (by omega)) gX3_leastFrom_X2_bottom rfl rfl rfl (by decide +kernel) ⟨by decide, by decide⟩ rfl hl.1 rfl (Nat.le_of_ble_eq_true rfl) ⟨Nat.zero_le _, Nat.zero_le _⟩ dX3_leastFrom_10 ?_
    have r11 := fr_r hI (2 * g) (τ 8 (2 * g)).toNat
    refine lv_aload hx hb dX3_leastFrom_13 (lv_at hl 4 rfl) ?_
    refine lv_iload_n hx hb dX3_leastFrom_15 rfl (lv_at hl 2 rfl) ?_
    refine c_call (n := 1) (As := [.int (iI ((j : Int)))]) (rest := [.int (iI (frO τ (2 * g) (τ 8 (2 * g)).toNat))]) hx hb hml hts hown hK hNW hW (va_recv hK (cw15 hW (i := 2 * g) (by omega)) (ci := 2) (q0 := 0) rfl rfl) (c2_top l D cT ad τ ρ hI (2 * g) (by omega) j (j : Int) (by omega) (by omega)) gX3_leastFrom_X2_top rfl rfl rfl (by decide +kernel) ⟨by decide, by decide⟩ rfl hl.1 rfl (Nat.le_of_ble_eq_true rfl) ⟨Nat.zero_le _, Nat.zero_le _⟩ dX3_leastFrom_16 ?_
    have r12 := fr_r hI (2 * g) j
    refine z_isub hx hb dX3_leastFrom_19 ?_
    exact s_iret hx hb hr hlocks (by rw [hN2, hM2, show N - i = 0 by omega, CS_0 hN2 hM2 (by omega), show M - (M - j) = j by omega]) dX3_leastFrom_20
set_option maxHeartbeats 4000000 in
set_option maxRecDepth 100000 in
theorem c3_weigh (l : Launch) (D : va_G) (cT : Nat → ClassId) (ad : Adr) (τ ρ : Tau) (hI : Rng τ) (h : Nat) (hlh : (h : Int) < τ 0 0) (g : Nat) (hlg : (g : Int) < τ 0 0)  : Met l yX3_weigh wsX3_weigh { frames := 4, cells := 0, slots := 0, locals := 92 } (cPc D cT ad τ ρ [.ref (ad 8 0), .ref (ad 15 (2 * h)), .ref (ad 15 (2 * g)), .ref (ad 4 0)]) (cQ D cT ad (none) τ (τ) (fun ρ2 => ∀ di dj, di ≤ (τ 8 (2 * h)).toNat → dj ≤ (τ 8 (2 * g)).toNat → ρ2 (2 + ((τ 8 (2 * h)).toNat - di)) ((τ 8 (2 * g)).toNat - dj) = CS τ h g di dj)) 0 0 (CA ad τ) := by
  refine c_start (by decide) rfl (Nat.le_of_ble_eq_true rfl) ?_
  intro p e s m below meth c hx hb hr hlocks hml hts hown hW hK hNW ls hl
  have hinX2 : ∀ w ∈ wsX20, w ∈ wsX3_weigh := by decide +kernel
  have hinX3 : ∀ w ∈ wsX30, w ∈ wsX3_weigh := by decide +kernel
  have hS : va_S (CA ad τ) s.heap s.heap [] := va_S.rf
  have hz : s.heap.size = s.heap.size := rfl
  have hR : Rng τ := hI
  have hl : lv_has ls 6 [(0, .ref (ad 8 0)), (1, .ref (ad 15 (2 * h))), (2, .ref (ad 15 (2 * g))), (3, .ref (ad 4 0))] := hl
  obtain ⟨N, hN⟩ : ∃ N : Nat, τ 8 (2 * h) = N := ⟨(τ 8 (2 * h)).toNat, by have : (0 : Int) ≤ τ 8 (2 * h) ∧ τ 8 (2 * h) ≤ 20 := hI 8 (2 * h); omega⟩
  have hN2 : (τ 8 (2 * h)).toNat = N := by omega
  have hN3 : N ≤ 20 := by have : (0 : Int) ≤ τ 8 (2 * h) ∧ τ 8 (2 * h) ≤ 20 := hI 8 (2 * h); omega
  obtain ⟨M, hM⟩ : ∃ N : Nat, τ 8 (2 * g) = N := ⟨(τ 8 (2 * g)).toNat, by have : (0 : Int) ≤ τ 8 (2 * g) ∧ τ 8 (2 * g) ≤ 20 := hI 8 (2 * g); omega⟩
  have hM2 : (τ 8 (2 * g)).toNat = M := by omega
  have hM3 : M ≤ 20 := by have : (0 : Int) ≤ τ 8 (2 * g) ∧ τ 8 (2 * g) ≤ 20 := hI 8 (2 * g); omega
  refine lv_aload_n hx hb dX3_weigh_0 rfl (lv_at hl 1 rfl) ?_
  refine y_get (C := RX2) (T := TX2) (N := 3) (ref := "CoreShed$Log") (ci := 2) hx hb hts hinX2 hown hK (cw15 hW (i := 2 * h) (by omega)) rfl 2 (by decide) (hts _ (by decide +kernel)) rfl (v := .int (iI (τ 8 (2 * h)))) rfl dX3_weigh_1 ?_
  have r1 : (0 : Int) ≤ τ 8 (2 * h) ∧ τ 8 (2 * h) ≤ 20 := hI 8 (2 * h)
  refine lv_istore (lv' := [(4, .int (iI (τ 8 (2 * h)))), (0, .ref (ad 8 0)), (1, .ref (ad 15 (2 * h))), (2, .ref (ad 15 (2 * g))), (3, .ref (ad 4 0))]) hx hb dX3_weigh_4 hl (by decide) rfl (fun ls hl => ?_)
  have lp6 : ∀ (n6 r : Nat) (x4 : Int), x4 = (N : Int) - (r : Int) → r ≤ (N + 1) → (N + 1) + 1 ≤ r + n6 → ∀ (ρc : Tau) (H : Heap) (locs : List Loc), CW D cT ad (τ) ρc H → va_S (CA ad τ) s.heap H locs → H.size = s.heap.size → Rng (τ) → (∀ di dj, di < r → dj ≤ M → ρc (2 + (N - di)) (M - dj) = CS τ h g di dj) → ∀ ls : Array Slot, lv_has ls 6 [(4, .int (iI (x4))), (0, .ref (ad 8 0)), (1, .ref (ad 15 (2 * h))), (2, .ref (ad 15 (2 * g))), (3, .ref (ad 4 0))] → W p l e { frames := 4, cells := 0, slots := 0, locals := 92 } s m [.ref (ad 8 0), .ref (ad 15 (2 * h)), .ref (ad 15 (2 * g)), .ref (ad 4 0)].toArray below meth c H locs 0 0 (MQ below (cQ D cT ad (none) τ (τ) (fun ρ2 => ∀ di dj, di ≤ (τ 8 (2 * h)).toNat → dj ≤ (τ 8 (2 * g)).toNat → ρ2 (2 + ((τ 8 (2 * h)).toNat - di)) ((τ 8 (2 * g)).toNat - dj) = CS τ h g di dj)) [.ref (ad 8 0), .ref (ad 15 (2 * h)), .ref (ad 15 (2 * g)), .ref (ad 4 0)].toArray s 0 0 (CA ad τ)) (F0 m 6 ls []) := by
    intro n6
    induction n6 with
    | zero => intro r x4  ex4 hk1 hk2; exact absurd hk2 (by omega)
    | succ n6 ih6 =>
      intro r x4  ex4 hk1 hk2  ρc H locs hW hS hz hR hC ls hl
      subst ex4
      refine lv_iload hx hb dX3_weigh_6 (lv_at hl 0 rfl) ?_
      refine z_if_lt (tgt := 55) hx hb (by omega) dX3_weigh_8 (by decide) (fun c2 => ?_) (fun c2 => ?_)
      · exact c_vret hx hb hr hlocks (⟨fun di dj h1 h2 => by rw [hN2, hM2]; exact hC di dj (by omega) (by omega), hW⟩) hS hz dX3_weigh_55
      · refine lv_aload_n hx hb dX3_weigh_11 rfl (lv_at hl 3 rfl) ?_
        refine y_get (C := RX2) (T := TX2) (N := 3) (ref := "CoreShed$Log") (ci := 2) hx hb hts hinX2 hown hK (cw15 hW (i := 2 * g) (by omega)) rfl 2 (by decide) (hts _ (by decide +kernel)) rfl (v := .int (iI (τ 8 (2 * g)))) rfl dX3_weigh_12 ?_
        have r3 : (0 : Int) ≤ τ 8 (2 * g) ∧ τ 8 (2 * g) ≤ 20 := hI 8 (2 * g)
        refine lv_istore (lv' := [(5, .int (iI (τ 8 (2 * g)))), (4, .int (iI ((N : Int) - (r : Int)))), (0, .ref (ad 8 0)), (1, .ref (ad 15 (2 * h))), (2, .ref (ad 15 (2 * g))), (3, .ref (ad 4 0))]) hx hb dX3_weigh_15 hl (by decide) rfl (fun ls hl => ?_)
        have lp17 : ∀ (n17 q : Nat) (x5 : Int), x5 = (M : Int) - (q : Int) → q ≤ (M + 1) → (M + 1) + 1 ≤ q + n17 → ∀ (ρd : Tau) (H : Heap) (locs : List Loc), CW D cT ad (τ) ρd H → va_S (CA ad τ) s.heap H locs → H.size = s.heap.size → Rng (τ) → (∀ di dj, di < r → dj ≤ M → ρd (2 + (N - di)) (M - dj) = CS τ h g di dj) → (∀ dj, dj < q → ρd (2 + (N - r)) (M - dj) = CS τ h g r dj) → ∀ ls : Array Slot, lv_has ls 6 [(5, .int (iI (x5))), (4, .int (iI ((N : Int) - (r : Int)))), (0, .ref (ad 8 0)), (1, .ref (ad 15 (2 * h))), (2, .ref (ad 15 (2 * g))), (3, .ref (ad 4 0))] → W p l e { frames := 4, cells := 0, slots := 0, locals := 92 } s m [.ref (ad 8 0), .ref (ad 15 (2 * h)), .ref (ad 15 (2 * g)), .ref (ad 4 0)].toArray below meth c H locs 0 0 (MQ below (cQ D cT ad (none) τ (τ) (fun ρ2 => ∀ di dj, di ≤ (τ 8 (2 * h)).toNat → dj ≤ (τ 8 (2 * g)).toNat → ρ2 (2 + ((τ 8 (2 * h)).toNat - di)) ((τ 8 (2 * g)).toNat - dj) = CS τ h g di dj)) [.ref (ad 8 0), .ref (ad 15 (2 * h)), .ref (ad 15 (2 * g)), .ref (ad 4 0)].toArray s 0 0 (CA ad τ)) (F0 m 17 ls []) := by
          intro n17
          induction n17 with
          | zero => intro q x5  ex5 hk1 hk2; exact absurd hk2 (by omega)
          | succ n17 ih17 =>
            intro q x5  ex5 hk1 hk2  ρd H locs hW hS hz hR hdC hdR ls hl
            subst ex5
            refine lv_iload hx hb dX3_weigh_17 (lv_at hl 0 rfl) ?_
            refine z_if_lt (tgt := 49) hx hb (by omega) dX3_weigh_19 (by decide) (fun c4 => ?_) (fun c4 => ?_)
            · refine z_iinc (k := 1) (lv' := [(4, .int (iI (((N : Int) - (r : Int)) + (-1)))), (5, .int (iI ((M : Int) - (q : Int)))), (0, .ref (ad 8 0)), (1, .ref (ad 15 (2 * h))), (2, .ref (ad 15 (2 * g))), (3, .ref (ad 4 0))]) hx hb dX3_weigh_49 hl rfl (by decide) rfl (fun ls hl => ?_)
              refine lv_goto (tgt := 6) hx hb dX3_weigh_52 (by decide) ?_
              exact ih6 (r + 1) (((N : Int) - (r : Int)) + (-1))  (by omega) (by omega) (by omega)  _ _ _ hW hS hz hR (fun di dj h1 h2 => if hd : di = r then (by rw [hd]; exact hdR dj (by omega)) else hdC di dj (by omega) h2) ls (lv_sub hl [0, 2, 3, 4, 5] rfl)
            · refine lv_aload_n hx hb dX3_weigh_22 rfl (lv_at hl 2 rfl) ?_
              refine y_get (C := RX3) (T := TX3) (N := 1) (ref := "CoreShed$Matching") (ci := 3) hx hb hts hinX3 hown hK (cw8 hW) rfl 0 (by decide) (hts _ (by decide +kernel)) rfl (v := .ref (ad 9 0)) rfl dX3_weigh_23 ?_
              refine lv_iload hx hb dX3_weigh_26 (lv_at hl 1 rfl) ?_
              refine y_aaldS (ty := .array .int) (j := N - r) (q := ad 10 (N - r)) hx hb hK 6 rfl (cw9 hW) rfl (by omega) (by omega) (by decide) rfl dX3_weigh_28 ?_
              refine lv_iload hx hb dX3_weigh_29 (lv_at hl 0 rfl) ?_
              refine lv_aload_n hx hb dX3_weigh_31 rfl (lv_at hl 2 rfl) ?_
              refine lv_iload hx hb dX3_weigh_32 (lv_at hl 1 rfl) ?_
              refine lv_iload hx hb dX3_weigh_34 (lv_at hl 0 rfl) ?_
              refine lv_aload_n hx hb dX3_weigh_36 rfl (lv_at hl 3 rfl) ?_
              refine lv_aload_n hx hb dX3_weigh_37 rfl (lv_at hl 4 rfl) ?_
              refine lv_aload_n hx hb dX3_weigh_38 rfl (lv_at hl 5 rfl) ?_
              refine c_call (n := 5) (As := [.int (iI ((N : Int) - (r : Int))), .int (iI ((M : Int) - (q : Int))), .ref (ad 15 (2 * h)), .ref (ad 15 (2 * g)), .ref (ad 4 0)]) (rest := [.int (iI ((M : Int) - (q : Int))), .ref (ad 10 (N - r))]) hx hb hml hts hown hK hNW hW (va_recv hK (cw8 hW) (ci := 3) (q0 := 0) rfl rfl) (c3_leastFrom l D cT ad τ ρd hI h (by omega) g (by omega) (N - r) ((N : Int) - (r : Int)) (by omega) (M - q) ((M : Int) - (q : Int)) (by omega) (by omega) (by omega) (fun di dj h1 h2 h3 => by rw [hN2] at h1 h3 ⊢; rw [hM2] at h2 h3 ⊢; exact if hd : di < r then hdC di dj hd h2 else (by rw [show di = r by omega]; exact hdR dj (by omega)))) gX3_weigh_X3_leastFrom rfl rfl rfl (by decide +kernel) ⟨by decide, by decide⟩ rfl hl.1 rfl (Nat.le_of_ble_eq_true rfl) ⟨Nat.zero_le _, Nat.zero_le _⟩ dX3_weigh_39 ?_
              refine z_top (show CS τ h g ((τ 8 (2 * h)).toNat - (N - r)) ((τ 8 (2 * g)).toNat - (M - q)) = CS τ h g r q from by rw [hN2, hM2, show N - (N - r) = r by omega, show M - (M - q) = q by omega]) ?_
              refine y_iast (j := M - q) (v := CS τ h g r q) hx hb hK hS 0 (cw10 hW (i := N - r) (by omega)) ⟨10, N - r, (show (N - r) < 21 from by omega), rfl⟩ rfl (by omega) (by omega) (by decide) dX3_weigh_42 (fun H locs hO hz1 hoq hS => ?_)
              have hz := hz1.trans hz
              have hW := hW.putrow (i := N - r) (by omega) hO hoq
              refine z_iinc (k := 0) (lv' := [(5, .int (iI (((M : Int) - (q : Int)) + (-1)))), (4, .int (iI ((N : Int) - (r : Int)))), (0, .ref (ad 8 0)), (1, .ref (ad 15 (2 * h))), (2, .ref (ad 15 (2 * g))), (3, .ref (ad 4 0))]) hx hb dX3_weigh_43 hl rfl (by decide) rfl (fun ls hl => ?_)
              refine lv_goto (tgt := 17) hx hb dX3_weigh_46 (by decide) ?_
              exact ih17 (q + 1) (((M : Int) - (q : Int)) + (-1))  (by omega) (by omega) (by omega)  _ _ _ hW hS hz hR (fun di dj h1 h2 => by rw [tu_n (show 2 + (N - di) ≠ 2 + (N - r) by omega)]; exact hdC di dj h1 h2) (fun dj hj => if hjq : dj = q then (by rw [hjq, tu_s]) else (by rw [tu_c, fu_n (by omega)]; exact hdR dj (by omega))) ls (lv_sub hl [0, 1, 2, 3, 4, 5] rfl)
        exact lp17 ((M + 1) + 1) 0 (τ 8 (2 * g))  (by omega) (by omega) (by omega)  _ _ _ hW hS hz hR hC (fun dj h1 => absurd h1 (by omega)) ls (lv_sub hl [0, 1, 2, 3, 4, 5] rfl)
  exact lp6 ((N + 1) + 1) 0 (τ 8 (2 * h))  (by omega) (by omega) (by omega)  _ _ _ hW hS hz hR (fun di dj h1 _ => absurd h1 (by omega)) ls (lv_sub hl [0, 1, 2, 3, 4] rfl)
set_option maxHeartbeats 4000000 in
set_option maxRecDepth 100000 in
theorem c3_leastPartner (l : Launch) (D : va_G) (cT : Nat → ClassId) (ad : Adr) (τ ρ : Tau) (hI : Rng τ) (h : Nat) (hlh : (h : Int) < τ 0 0) (g : Nat) (hlg : (g : Int) < τ 0 0) (i : Nat) (zi : Int) (hzi : zi = (i : Int)) (f : Nat) (zf : Int) (hzf : zf = (f : Int)) (hi : i < (τ 8 (2 * h)).toNat) (hf : f ≤ (τ 8 (2 * g)).toNat) (hρ : ∀ di dj, di ≤ (τ 8 (2 * h)).toNat → dj ≤ (τ 8 (2 * g)).toNat → ρ (2 + ((τ 8 (2 * h)).toNat - di)) ((τ 8 (2 * g)).toNat - dj) = CS τ h g di dj) : Met l yX3_leastPartner wsX3_leastPartner { frames := 3, cells := 0, slots := 0, locals := 66 } (cPc D cT ad τ ρ [.ref (ad 8 0), .int (iI zi), .int (iI zf), .ref (ad 15 (2 * h)), .ref (ad 15 (2 * g)), .ref (ad 4 0)]) (rS (lpI τ h g i f)) 0 0 (NoA) := by
  subst hzi
  subst hzf
  refine c_start (by decide) rfl (Nat.le_of_ble_eq_true rfl) ?_
  intro p e s m below meth c hx hb hr hlocks hml hts hown hW hK hNW ls hl
  have hinX2 : ∀ w ∈ wsX20, w ∈ wsX3_leastPartner := by decide +kernel
  have hinX3 : ∀ w ∈ wsX30, w ∈ wsX3_leastPartner := by decide +kernel
  have hl : lv_has ls 8 [(0, .ref (ad 8 0)), (1, .int (iI ((i : Int)))), (2, .int (iI ((f : Int)))), (3, .ref (ad 15 (2 * h))), (4, .ref (ad 15 (2 * g))), (5, .ref (ad 4 0))] := hl
  obtain ⟨N, hN⟩ : ∃ N : Nat, τ 8 (2 * h) = N := ⟨(τ 8 (2 * h)).toNat, by have : (0 : Int) ≤ τ 8 (2 * h) ∧ τ 8 (2 * h) ≤ 20 := hI 8 (2 * h); omega⟩
  have hN2 : (τ 8 (2 * h)).toNat = N := by omega
  have hN3 : N ≤ 20 := by have : (0 : Int) ≤ τ 8 (2 * h) ∧ τ 8 (2 * h) ≤ 20 := hI 8 (2 * h); omega
  obtain ⟨M, hM⟩ : ∃ N : Nat, τ 8 (2 * g) = N := ⟨(τ 8 (2 * g)).toNat, by have : (0 : Int) ≤ τ 8 (2 * g) ∧ τ 8 (2 * g) ≤ 20 := hI 8 (2 * g); omega⟩
  have hM2 : (τ 8 (2 * g)).toNat = M := by omega
  have hM3 : M ≤ 20 := by have : (0 : Int) ≤ τ 8 (2 * g) ∧ τ 8 (2 * g) ≤ 20 := hI 8 (2 * g); omega
  have hb2 := CS_r hI h g (r := N - i) (q := M - f) (by omega) (by omega)
  refine lv_iload_n hx hb dX3_leastPartner_0 rfl (lv_at hl 2 rfl) ?_
  refine lv_istore (lv' := [(6, .int (iI ((f : Int)))), (0, .ref (ad 8 0)), (1, .int (iI ((i : Int)))), (2, .int (iI ((f : Int)))), (3, .ref (ad 15 (2 * h))), (4, .ref (ad 15 (2 * g))), (5, .ref (ad 4 0))]) hx hb dX3_leastPartner_1 hl (by decide) rfl (fun ls hl => ?_)
  have lp3 : ∀ (n3 q : Nat) (x6 : Int), x6 = (f : Int) + (q : Int) → q ≤ (M - f) → (M - f) + 1 ≤ q + n3 → (∀ j, j < q → lpB τ h g i f j = false) → ∀ ls : Array Slot, lv_has ls 8 [(6, .int (iI (x6))), (0, .ref (ad 8 0)), (1, .int (iI ((i : Int)))), (2, .int (iI ((f : Int)))), (3, .ref (ad 15 (2 * h))), (4, .ref (ad 15 (2 * g))), (5, .ref (ad 4 0))] → W p l e { frames := 3, cells := 0, slots := 0, locals := 66 } s m [.ref (ad 8 0), .int (iI ((i : Int))), .int (iI ((f : Int))), .ref (ad 15 (2 * h)), .ref (ad 15 (2 * g)), .ref (ad 4 0)].toArray below meth c s.heap [] 0 0 (MQ below (rS (lpI τ h g i f)) [.ref (ad 8 0), .int (iI ((i : Int))), .int (iI ((f : Int))), .ref (ad 15 (2 * h)), .ref (ad 15 (2 * g)), .ref (ad 4 0)].toArray s 0 0 (NoA)) (F0 m 3 ls []) := by
    intro n3
    induction n3 with
    | zero => intro q x6  ex6 hk1 hk2; exact absurd hk2 (by omega)
    | succ n3 ih3 =>
      intro q x6  ex6 hk1 hk2 hn ls hl
      subst ex6
      have hb1 := CS_r hI h g (r := N - (i + 1)) (q := M - (f + q + 1)) (by omega) (by omega)
      refine lv_iload hx hb dX3_leastPartner_3 (lv_at hl 0 rfl) ?_
      refine lv_aload hx hb dX3_leastPartner_5 (lv_at hl 5 rfl) ?_
      refine y_get (C := RX2) (T := TX2) (N := 3) (ref := "CoreShed$Log") (ci := 2) hx hb hts hinX2 hown hK (cw15 hW (i := 2 * g) (by omega)) rfl 2 (by decide) (hts _ (by decide +kernel)) rfl (v := .int (iI (τ 8 (2 * g)))) rfl dX3_leastPartner_7 ?_
      have r1 : (0 : Int) ≤ τ 8 (2 * g) ∧ τ 8 (2 * g) ≤ 20 := hI 8 (2 * g)
      refine z_icmp_ge (tgt := 76) hx hb (by omega) (by omega) dX3_leastPartner_10 (by decide) (fun c2 => ?_) (fun c2 => ?_)
      · refine z_iconst hx hb dX3_leastPartner_76 ?_
        exact s_iret hx hb hr hlocks (by unfold lpI; rw [hM2, show M - f = q by omega, ff_no hn]; rfl) dX3_leastPartner_77
      · refine lv_aload hx hb dX3_leastPartner_13 (lv_at hl 5 rfl) ?_
        refine lv_iload hx hb dX3_leastPartner_15 (lv_at hl 0 rfl) ?_
        refine c_call (n := 1) (As := [.int (iI ((f : Int) + (q : Int)))]) (rest := []) hx hb hml hts hown hK hNW hW (va_recv hK (cw15 hW (i := 2 * g) (by omega)) (ci := 2) (q0 := 0) rfl rfl) (c2_top l D cT ad τ ρ hI (2 * g) (by omega) (f + q) ((f : Int) + (q : Int)) (by omega) (by omega)) gX3_leastPartner_X2_top rfl rfl rfl (by decide +kernel) ⟨by decide, by decide⟩ rfl hl.1 rfl (Nat.le_of_ble_eq_true rfl) ⟨Nat.zero_le _, Nat.zero_le _⟩ dX3_leastPartner_17 ?_
        have r3 := fr_r hI (2 * g) (f + q)
        refine lv_aload hx hb dX3_leastPartner_20 (lv_at hl 5 rfl) ?_
        refine lv_iload_n hx hb dX3_leastPartner_22 rfl (lv_at hl 3 rfl) ?_
        refine c_call (n := 1) (As := [.int (iI ((f : Int)))]) (rest := [.int (iI (frO τ (2 * g) (f + q)))]) hx hb hml hts hown hK hNW hW (va_recv hK (cw15 hW (i := 2 * g) (by omega)) (ci := 2) (q0 := 0) rfl rfl) (c2_top l D cT ad τ ρ hI (2 * g) (by omega) f (f : Int) (by omega) (by omega)) gX3_leastPartner_X2_top rfl rfl rfl (by decide +kernel) ⟨by decide, by decide⟩ rfl hl.1 rfl (Nat.le_of_ble_eq_true rfl) ⟨Nat.zero_le _, Nat.zero_le _⟩ dX3_leastPartner_23 ?_
        have r4 := fr_r hI (2 * g) f
        refine z_isub hx hb dX3_leastPartner_26 ?_
        refine lv_istore (lv' := [(7, .int (iI ((frO τ (2 * g) (f + q)) - (frO τ (2 * g) f)))), (6, .int (iI ((f : Int) + (q : Int)))), (0, .ref (ad 8 0)), (1, .int (iI ((i : Int)))), (2, .int (iI ((f : Int)))), (3, .ref (ad 15 (2 * h))), (4, .ref (ad 15 (2 * g))), (5, .ref (ad 4 0))]) hx hb dX3_leastPartner_27 hl (by decide) rfl (fun ls hl => ?_)
        refine lv_iload_n hx hb dX3_leastPartner_29 rfl (lv_at hl 3 rfl) ?_
        refine lv_iload hx hb dX3_leastPartner_30 (lv_at hl 1 rfl) ?_
        refine lv_aload_n hx hb dX3_leastPartner_32 rfl (lv_at hl 5 rfl) ?_
        refine lv_aload hx hb dX3_leastPartner_33 (lv_at hl 6 rfl) ?_
        refine lv_aload hx hb dX3_leastPartner_35 (lv_at hl 7 rfl) ?_
        refine c_scall (n := 5) (As := [.int (iI ((i : Int))), .int (iI ((f : Int) + (q : Int))), .ref (ad 15 (2 * h)), .ref (ad 15 (2 * g)), .ref (ad 4 0)]) (rest := []) hx hb hml hts hown hK hNW hW  (c3_isAlike l D cT ad τ ρ hI h (by omega) g (by omega) i (i : Int) (by omega) (f + q) ((f : Int) + (q : Int)) (by omega) (by omega) (by omega)) gX3_leastPartner_X3_isAlike rfl rfl rfl (by decide +kernel) ⟨by decide, by decide⟩ rfl hl.1 rfl (Nat.le_of_ble_eq_true rfl) ⟨Nat.zero_le _, Nat.zero_le _⟩ dX3_leastPartner_37 ?_
        refine z_if_eqB (tgt := 70) hx hb dX3_leastPartner_40 (by decide) (fun c5 => ?_) (fun c5 => ?_)
        · refine z_iinc (k := 1) (lv' := [(6, .int (iI (((f : Int) + (q : Int)) + 1))), (7, .int (iI ((frO τ (2 * g) (f + q)) - (frO τ (2 * g) f)))), (0, .ref (ad 8 0)), (1, .int (iI ((i : Int)))), (2, .int (iI ((f : Int)))), (3, .ref (ad 15 (2 * h))), (4, .ref (ad 15 (2 * g))), (5, .ref (ad 4 0))]) hx hb dX3_leastPartner_70 hl rfl (by decide) rfl (fun ls hl => ?_)
          refine lv_goto (tgt := 3) hx hb dX3_leastPartner_73 (by decide) ?_
          exact ih3 (q + 1) (((f : Int) + (q : Int)) + 1)  (by omega) (by omega) (by omega) (fl_s hn (decide_eq_false (fun hk => c5 hk.1))) ls (lv_sub hl [0, 2, 3, 4, 5, 6, 7] rfl)
        · refine lv_iload hx hb dX3_leastPartner_43 (lv_at hl 0 rfl) ?_
          refine lv_aload_n hx hb dX3_leastPartner_45 rfl (lv_at hl 2 rfl) ?_
          refine lv_iload_n hx hb dX3_leastPartner_46 rfl (lv_at hl 3 rfl) ?_
          refine lv_iload hx hb dX3_leastPartner_47 (lv_at hl 1 rfl) ?_
          refine lv_aload_n hx hb dX3_leastPartner_49 rfl (lv_at hl 5 rfl) ?_
          refine lv_aload hx hb dX3_leastPartner_50 (lv_at hl 6 rfl) ?_
          refine c_call (n := 4) (As := [.int (iI ((i : Int))), .int (iI ((f : Int) + (q : Int))), .ref (ad 15 (2 * h)), .ref (ad 15 (2 * g))]) (rest := [.int (iI ((frO τ (2 * g) (f + q)) - (frO τ (2 * g) f)))]) hx hb hml hts hown hK hNW hW (va_recv hK (cw8 hW) (ci := 3) (q0 := 0) rfl rfl) (c3_pairedSum l D cT ad τ ρ hI h (by omega) g (by omega) i (i : Int) (by omega) (f + q) ((f : Int) + (q : Int)) (by omega) (by omega) (by omega)) gX3_leastPartner_X3_pairedSum rfl rfl rfl (by decide +kernel) ⟨by decide, by decide⟩ rfl hl.1 rfl (Nat.le_of_ble_eq_true rfl) ⟨Nat.zero_le _, Nat.zero_le _⟩ dX3_leastPartner_52 ?_
          have r6 := far_r2 (th_r hI (2 * h) i) (th_r hI (2 * g) (f + q))
          refine z_top (show farI (thO τ (2 * h) i) (thO τ (2 * g) (f + q)) + ρ (2 + (i + 1)) ((f + q) + 1) = farI (thO τ (2 * h) i) (thO τ (2 * g) (f + q)) + CS τ h g (N - (i + 1)) (M - (f + q + 1)) from by have hc := hρ (N - (i + 1)) (M - (f + q + 1)) (by omega) (by omega); rw [hN2, hM2, show N - (N - (i + 1)) = i + 1 by omega, show M - (M - (f + q + 1)) = f + q + 1 by omega] at hc; rw [hc]) ?_
          refine z_iadd hx hb dX3_leastPartner_55 ?_
          refine lv_aload_n hx hb dX3_leastPartner_56 rfl (lv_at hl 2 rfl) ?_
          refine y_get (C := RX3) (T := TX3) (N := 1) (ref := "CoreShed$Matching") (ci := 3) hx hb hts hinX3 hown hK (cw8 hW) rfl 0 (by decide) (hts _ (by decide +kernel)) rfl (v := .ref (ad 9 0)) rfl dX3_leastPartner_57 ?_
          refine lv_iload_n hx hb dX3_leastPartner_60 rfl (lv_at hl 3 rfl) ?_
          refine y_aaldS (ty := .array .int) (j := i) (q := ad 10 i) hx hb hK 6 rfl (cw9 hW) rfl (by omega) (by omega) (by decide) rfl dX3_leastPartner_61 ?_
          refine lv_iload_n hx hb dX3_leastPartner_62 rfl (lv_at hl 4 rfl) ?_
          refine y_iald (j := f) hx hb hK 0 (cw10 hW (i := i) (by omega)) rfl (by omega) (by omega) (by decide) dX3_leastPartner_63 ?_
          refine z_top (show ρ (2 + i) f = CS τ h g (N - i) (M - f) from by have hc := hρ (N - i) (M - f) (by omega) (by omega) ; rw [hN2, hM2, show N - (N - i) = i by omega, show M - (M - f) = f by omega] at hc; exact hc) ?_
          refine z_icmp_ne (tgt := 70) hx hb (by omega) (by omega) dX3_leastPartner_64 (by decide) (fun c7 => ?_) (fun c7 => ?_)
          · refine z_iinc (k := 1) (lv' := [(6, .int (iI (((f : Int) + (q : Int)) + 1))), (7, .int (iI ((frO τ (2 * g) (f + q)) - (frO τ (2 * g) f)))), (0, .ref (ad 8 0)), (1, .int (iI ((i : Int)))), (2, .int (iI ((f : Int)))), (3, .ref (ad 15 (2 * h))), (4, .ref (ad 15 (2 * g))), (5, .ref (ad 4 0))]) hx hb dX3_leastPartner_70 hl rfl (by decide) rfl (fun ls hl => ?_)
            refine lv_goto (tgt := 3) hx hb dX3_leastPartner_73 (by decide) ?_
            exact ih3 (q + 1) (((f : Int) + (q : Int)) + 1)  (by omega) (by omega) (by omega) (fl_s hn (decide_eq_false (fun hk => c7 (by rw [← hM2, ← hN2]; exact hk.2)))) ls (lv_sub hl [0, 2, 3, 4, 5, 6, 7] rfl)
          · refine lv_iload hx hb dX3_leastPartner_67 (lv_at hl 1 rfl) ?_
            exact s_iret hx hb hr hlocks (by unfold lpI; rw [ff_at hn (show lpB τ h g i f q = true from decide_eq_true ⟨c5, by rw [hM2, hN2]; exact c7⟩) (by omega)]; unfold pfI; rw [if_neg (by omega)]) dX3_leastPartner_69
  exact lp3 ((M - f) + 1) 0 (f : Int)  (by omega) (by omega) (by omega) fl_0 ls (lv_sub hl [0, 1, 2, 3, 4, 5, 6] rfl)
set_option maxHeartbeats 4000000 in
set_option maxRecDepth 100000 in
theorem c3_partnerOf (l : Launch) (D : va_G) (cT : Nat → ClassId) (ad : Adr) (τ ρ : Tau) (hI : Rng τ) (h : Nat) (hlh : (h : Int) < τ 0 0) (g : Nat) (hlg : (g : Int) < τ 0 0) (k : Nat) (zk : Int) (hzk : zk = (k : Int)) (hk : k < (τ 8 (2 * h)).toNat) (hρ : ∀ di dj, di ≤ (τ 8 (2 * h)).toNat → dj ≤ (τ 8 (2 * g)).toNat → ρ (2 + ((τ 8 (2 * h)).toNat - di)) ((τ 8 (2 * g)).toNat - dj) = CS τ h g di dj) : Met l yX3_partnerOf wsX3_partnerOf { frames := 4, cells := 0, slots := 0, locals := 93 } (cPc D cT ad τ ρ [.ref (ad 8 0), .int (iI zk), .ref (ad 15 (2 * h)), .ref (ad 15 (2 * g)), .ref (ad 4 0)]) (rS ((maS τ h g (k + 1)).2)) 0 0 (NoA) := by
  subst hzk
  refine c_start (by decide) rfl (Nat.le_of_ble_eq_true rfl) ?_
  intro p e s m below meth c hx hb hr hlocks hml hts hown hW hK hNW ls hl
  have hl : lv_has ls 8 [(0, .ref (ad 8 0)), (1, .int (iI ((k : Int)))), (2, .ref (ad 15 (2 * h))), (3, .ref (ad 15 (2 * g))), (4, .ref (ad 4 0))] := hl
  obtain ⟨N, hN⟩ : ∃ N : Nat, τ 8 (2 * h) = N := ⟨(τ 8 (2 * h)).toNat, by have : (0 : Int) ≤ τ 8 (2 * h) ∧ τ 8 (2 * h) ≤ 20 := hI 8 (2 * h); omega⟩
  have hN2 : (τ 8 (2 * h)).toNat = N := by omega
  have hN3 : N ≤ 20 := by have : (0 : Int) ≤ τ 8 (2 * h) ∧ τ 8 (2 * h) ≤ 20 := hI 8 (2 * h); omega
  obtain ⟨M, hM⟩ : ∃ N : Nat, τ 8 (2 * g) = N := ⟨(τ 8 (2 * g)).toNat, by have : (0 : Int) ≤ τ 8 (2 * g) ∧ τ 8 (2 * g) ≤ 20 := hI 8 (2 * g); omega⟩
  have hM2 : (τ 8 (2 * g)).toNat = M := by omega
  have hM3 : M ≤ 20 := by have : (0 : Int) ≤ τ 8 (2 * g) ∧ τ 8 (2 * g) ≤ 20 := hI 8 (2 * g); omega
  refine z_iconst hx hb dX3_partnerOf_0 ?_
  refine lv_istore (lv' := [(5, .int (iI (0))), (0, .ref (ad 8 0)), (1, .int (iI ((k : Int)))), (2, .ref (ad 15 (2 * h))), (3, .ref (ad 15 (2 * g))), (4, .ref (ad 4 0))]) hx hb dX3_partnerOf_1 hl (by decide) rfl (fun ls hl => ?_)
  refine z_iconst hx hb dX3_partnerOf_3 ?_
  refine lv_istore (lv' := [(6, .int (iI ((-1)))), (5, .int (iI (0))), (0, .ref (ad 8 0)), (1, .int (iI ((k : Int)))), (2, .ref (ad 15 (2 * h))), (3, .ref (ad 15 (2 * g))), (4, .ref (ad 4 0))]) hx hb dX3_partnerOf_4 hl (by decide) rfl (fun ls hl => ?_)
  refine z_iconst hx hb dX3_partnerOf_6 ?_
  refine lv_istore (lv' := [(7, .int (iI (0))), (6, .int (iI ((-1)))), (5, .int (iI (0))), (0, .ref (ad 8 0)), (1, .int (iI ((k : Int)))), (2, .ref (ad 15 (2 * h))), (3, .ref (ad 15 (2 * g))), (4, .ref (ad 4 0))]) hx hb dX3_partnerOf_7 hl (by decide) rfl (fun ls hl => ?_)
  have lp9 : ∀ (n9 i : Nat) (x5 x6 x7 : Int), x5 = ((maS τ h g i).1 : Int) → x6 = (maS τ h g i).2 → x7 = (i : Int) → i ≤ (k + 1) → (k + 1) + 1 ≤ i + n9 → ∀ ls : Array Slot, lv_has ls 8 [(5, .int (iI (x5))), (6, .int (iI (x6))), (7, .int (iI (x7))), (0, .ref (ad 8 0)), (1, .int (iI ((k : Int)))), (2, .ref (ad 15 (2 * h))), (3, .ref (ad 15 (2 * g))), (4, .ref (ad 4 0))] → W p l e { frames := 4, cells := 0, slots := 0, locals := 93 } s m [.ref (ad 8 0), .int (iI ((k : Int))), .ref (ad 15 (2 * h)), .ref (ad 15 (2 * g)), .ref (ad 4 0)].toArray below meth c s.heap [] 0 0 (MQ below (rS ((maS τ h g (k + 1)).2)) [.ref (ad 8 0), .int (iI ((k : Int))), .ref (ad 15 (2 * h)), .ref (ad 15 (2 * g)), .ref (ad 4 0)].toArray s 0 0 (NoA)) (F0 m 9 ls []) := by
    intro n9
    induction n9 with
    | zero => intro i x5 x6 x7  ex5 ex6 ex7 hk1 hk2; exact absurd hk2 (by omega)
    | succ n9 ih9 =>
      intro i x5 x6 x7  ex5 ex6 ex7 hk1 hk2  ls hl
      subst ex5
      subst ex6
      subst ex7
      have hma := ma_r τ h g i
      refine lv_iload hx hb dX3_partnerOf_9 (lv_at hl 2 rfl) ?_
      refine lv_iload_n hx hb dX3_partnerOf_11 rfl (lv_at hl 4 rfl) ?_
      refine z_icmp_gt (tgt := 47) hx hb (by omega) (by omega) dX3_partnerOf_12 (by decide) (fun c1 => ?_) (fun c1 => ?_)
      · refine lv_iload hx hb dX3_partnerOf_47 (lv_at hl 1 rfl) ?_
        exact s_iret hx hb hr hlocks (by rw [show k + 1 = i by omega]) dX3_partnerOf_49
      · refine lv_aload_n hx hb dX3_partnerOf_15 rfl (lv_at hl 3 rfl) ?_
        refine lv_iload hx hb dX3_partnerOf_16 (lv_at hl 2 rfl) ?_
        refine lv_iload hx hb dX3_partnerOf_18 (lv_at hl 0 rfl) ?_
        refine lv_aload_n hx hb dX3_partnerOf_20 rfl (lv_at hl 5 rfl) ?_
        refine lv_aload_n hx hb dX3_partnerOf_21 rfl (lv_at hl 6 rfl) ?_
        refine lv_aload hx hb dX3_partnerOf_22 (lv_at hl 7 rfl) ?_
        refine c_call (n := 5) (As := [.int (iI ((i : Int))), .int (iI (((maS τ h g i).1 : Int))), .ref (ad 15 (2 * h)), .ref (ad 15 (2 * g)), .ref (ad 4 0)]) (rest := []) hx hb hml hts hown hK hNW hW (va_recv hK (cw8 hW) (ci := 3) (q0 := 0) rfl rfl) (c3_leastPartner l D cT ad τ ρ hI h (by omega) g (by omega) i (i : Int) (by omega) ((maS τ h g i).1) ((maS τ h g i).1 : Int) (by omega) (by omega) (by omega) hρ) gX3_partnerOf_X3_leastPartner rfl rfl rfl (by decide +kernel) ⟨by decide, by decide⟩ rfl hl.1 rfl (Nat.le_of_ble_eq_true rfl) ⟨Nat.zero_le _, Nat.zero_le _⟩ dX3_partnerOf_24 ?_
        have r2 := lp_r hI h g i ((maS τ h g i).1) (by omega)
        refine lv_istore (lv' := [(6, .int (iI (lpI τ h g i ((maS τ h g i).1)))), (5, .int (iI (((maS τ h g i).1 : Int)))), (7, .int (iI ((i : Int)))), (0, .ref (ad 8 0)), (1, .int (iI ((k : Int)))), (2, .ref (ad 15 (2 * h))), (3, .ref (ad 15 (2 * g))), (4, .ref (ad 4 0))]) hx hb dX3_partnerOf_27 hl (by decide) rfl (fun ls hl => ?_)
        refine lv_iload hx hb dX3_partnerOf_29 (lv_at hl 0 rfl) ?_
        refine z_iconst hx hb dX3_partnerOf_31 ?_
        refine z_icmp_eq (tgt := 41) hx hb (by omega) (by omega) dX3_partnerOf_32 (by decide) (fun c3 => ?_) (fun c3 => ?_)
        · refine z_iinc (k := 2) (lv' := [(7, .int (iI ((i : Int) + 1))), (6, .int (iI (lpI τ h g i ((maS τ h g i).1)))), (5, .int (iI (((maS τ h g i).1 : Int)))), (0, .ref (ad 8 0)), (1, .int (iI ((k : Int)))), (2, .ref (ad 15 (2 * h))), (3, .ref (ad 15 (2 * g))), (4, .ref (ad 4 0))]) hx hb dX3_partnerOf_41 hl rfl (by decide) rfl (fun ls hl => ?_)
          refine lv_goto (tgt := 9) hx hb dX3_partnerOf_44 (by decide) ?_
          exact ih9 (i + 1) ((maS τ h g i).1 : Int) (lpI τ h g i ((maS τ h g i).1)) ((i : Int) + 1)  (by show _ = (((if lpI τ h g i (maS τ h g i).1 = -1 then (maS τ h g i).1 else (lpI τ h g i (maS τ h g i).1).toNat + 1 : Nat)) : Int); rw [if_pos c3]) rfl (by omega) (by omega) (by omega)  ls (lv_sub hl [2, 1, 0, 3, 4, 5, 6, 7] rfl)
        · refine lv_iload hx hb dX3_partnerOf_35 (lv_at hl 0 rfl) ?_
          refine z_iconst hx hb dX3_partnerOf_37 ?_
          refine z_iadd hx hb dX3_partnerOf_38 ?_
          refine lv_istore (lv' := [(5, .int (iI ((lpI τ h g i ((maS τ h g i).1)) + 1))), (6, .int (iI (lpI τ h g i ((maS τ h g i).1)))), (7, .int (iI ((i : Int)))), (0, .ref (ad 8 0)), (1, .int (iI ((k : Int)))), (2, .ref (ad 15 (2 * h))), (3, .ref (ad 15 (2 * g))), (4, .ref (ad 4 0))]) hx hb dX3_partnerOf_39 hl (by decide) rfl (fun ls hl => ?_)
          refine z_iinc (k := 2) (lv' := [(7, .int (iI ((i : Int) + 1))), (5, .int (iI ((lpI τ h g i ((maS τ h g i).1)) + 1))), (6, .int (iI (lpI τ h g i ((maS τ h g i).1)))), (0, .ref (ad 8 0)), (1, .int (iI ((k : Int)))), (2, .ref (ad 15 (2 * h))), (3, .ref (ad 15 (2 * g))), (4, .ref (ad 4 0))]) hx hb dX3_partnerOf_41 hl rfl (by decide) rfl (fun ls hl => ?_)
          refine lv_goto (tgt := 9) hx hb dX3_partnerOf_44 (by decide) ?_
          exact ih9 (i + 1) ((lpI τ h g i ((maS τ h g i).1)) + 1) (lpI τ h g i ((maS τ h g i).1)) ((i : Int) + 1)  (by show _ = (((if lpI τ h g i (maS τ h g i).1 = -1 then (maS τ h g i).1 else (lpI τ h g i (maS τ h g i).1).toNat + 1 : Nat)) : Int); rw [if_neg c3]; omega) rfl (by omega) (by omega) (by omega)  ls (lv_sub hl [1, 2, 0, 3, 4, 5, 6, 7] rfl)
  exact lp9 ((k + 1) + 1) 0 0 (-1) 0  rfl rfl (by omega) (by omega) (by omega)  ls (lv_sub hl [2, 1, 0, 3, 4, 5, 6, 7] rfl)
set_option maxHeartbeats 4000000 in
set_option maxRecDepth 100000 in
theorem c7_cost (l : Launch) (D : va_G) (cT : Nat → ClassId) (ad : Adr) (τ ρ : Tau) (hI : Rng τ) (a : Int) (h_a : I32 a) (b : Int) (h_b : I32 b)  : Met l yX7_cost wsX7_cost { frames := 5, cells := 0, slots := 0, locals := 117 } (cPc D cT ad τ ρ [.ref (ad 0 0), .int (iI (a)), .int (iI (b))]) (cQ D cT ad (some (.int (iI (spCost τ a b)))) τ (τ) (fun _ => True)) 0 0 (CA ad τ) := by
  refine c_start (by decide) rfl (Nat.le_of_ble_eq_true rfl) ?_
  intro p e s m below meth c hx hb hr hlocks hml hts hown hW hK hNW ls hl
  have hinX1 : ∀ w ∈ wsX10, w ∈ wsX7_cost := by decide +kernel
  have hinX3 : ∀ w ∈ wsX30, w ∈ wsX7_cost := by decide +kernel
  have hinX7 : ∀ w ∈ wsX70, w ∈ wsX7_cost := by decide +kernel
  have hS : va_S (CA ad τ) s.heap s.heap [] := va_S.rf
  have hz : s.heap.size = s.heap.size := rfl
  have hR : Rng τ := hI
  have hl : lv_has ls 5 [(0, .ref (ad 0 0)), (1, .int (iI (a))), (2, .int (iI (b)))] := hl
  have hq0_0 : (0 : Int) ≤ τ 0 0 ∧ τ 0 0 ≤ 4 := hI 0 0
  by_cases hh : 0 ≤ a ∧ a < τ 0 0
  · by_cases hh2 : 0 ≤ b ∧ b < τ 0 0
    · refine lv_aload_n hx hb dX7_cost_0 rfl (lv_at hl 0 rfl) ?_
      refine lv_iload_n hx hb dX7_cost_1 rfl (lv_at hl 1 rfl) ?_
      refine c_callR (n := 1) (As := [.int (iI (a))]) (rest := []) hx hb hml hts hown hK hNW hW (va_recv hK (cw0 hW) (ci := 7) (q0 := 0) rfl rfl) (c7_holeNamed_some l D cT ad τ ρ hI a.toNat a (by omega) (by omega)) gX7_cost_X7_holeNamed rfl rfl rfl (by decide +kernel) ⟨by decide, by decide⟩ rfl hl.1 rfl (Nat.le_of_ble_eq_true rfl) ⟨Nat.zero_le _, Nat.zero_le _⟩ dX7_cost_2 ?_
      refine lv_astore_n (lv' := [(3, .ref (ad 11 a.toNat)), (0, .ref (ad 0 0)), (1, .int (iI (a))), (2, .int (iI (b)))]) hx hb dX7_cost_5 rfl hl (by decide) rfl (fun ls hl => ?_)
      refine lv_aload_n hx hb dX7_cost_6 rfl (lv_at hl 1 rfl) ?_
      refine lv_iload_n hx hb dX7_cost_7 rfl (lv_at hl 3 rfl) ?_
      refine c_callR (n := 1) (As := [.int (iI (b))]) (rest := []) hx hb hml hts hown hK hNW hW (va_recv hK (cw0 hW) (ci := 7) (q0 := 0) rfl rfl) (c7_holeNamed_some l D cT ad τ ρ hI b.toNat b (by omega) (by omega)) gX7_cost_X7_holeNamed rfl rfl rfl (by decide +kernel) ⟨by decide, by decide⟩ rfl hl.1 rfl (Nat.le_of_ble_eq_true rfl) ⟨Nat.zero_le _, Nat.zero_le _⟩ dX7_cost_8 ?_
      refine lv_astore (lv' := [(4, .ref (ad 11 b.toNat)), (3, .ref (ad 11 a.toNat)), (0, .ref (ad 0 0)), (1, .int (iI (a))), (2, .int (iI (b)))]) hx hb dX7_cost_11 hl (by decide) rfl (fun ls hl => ?_)
      refine lv_aload_n hx hb dX7_cost_13 rfl (lv_at hl 1 rfl) ?_
      refine lv_ifnull hx hb dX7_cost_14 ?_
      refine lv_aload hx hb dX7_cost_17 (lv_at hl 0 rfl) ?_
      refine lv_ifnonnull (tgt := 25) hx hb dX7_cost_19 (by decide) ?_
      refine lv_aload_n hx hb dX7_cost_25 rfl (lv_at hl 2 rfl) ?_
      refine y_get (C := RX7) (T := TX7) (N := 11) (ref := "CoreShed") (ci := 7) hx hb hts hinX7 hown hK (cw0 hW) rfl 5 (by decide) (hts _ (by decide +kernel)) rfl (v := .ref (ad 8 0)) rfl dX7_cost_26 ?_
      refine lv_aload_n hx hb dX7_cost_29 rfl (lv_at hl 1 rfl) ?_
      refine y_get (C := RX1) (T := TX1) (N := 8) (ref := "CoreShed$Hole") (ci := 1) hx hb hts hinX1 hown hK (cw11 hW (i := a.toNat) (by omega)) rfl 3 (by decide) (hts _ (by decide +kernel)) rfl (v := .ref (ad 15 (2 * a.toNat))) rfl dX7_cost_30 ?_
      refine lv_aload hx hb dX7_cost_33 (lv_at hl 0 rfl) ?_
      refine y_get (C := RX1) (T := TX1) (N := 8) (ref := "CoreShed$Hole") (ci := 1) hx hb hts hinX1 hown hK (cw11 hW (i := b.toNat) (by omega)) rfl 3 (by decide) (hts _ (by decide +kernel)) rfl (v := .ref (ad 15 (2 * b.toNat))) rfl dX7_cost_35 ?_
      refine lv_aload_n hx hb dX7_cost_38 rfl (lv_at hl 2 rfl) ?_
      refine y_get (C := RX7) (T := TX7) (N := 11) (ref := "CoreShed") (ci := 7) hx hb hts hinX7 hown hK (cw0 hW) rfl 3 (by decide) (hts _ (by decide +kernel)) rfl (v := .ref (ad 4 0)) rfl dX7_cost_39 ?_
      refine c_callW (n := 3) (As := [.ref (ad 15 (2 * a.toNat)), .ref (ad 15 (2 * b.toNat)), .ref (ad 4 0)]) (rest := []) hx hb hml hts hown hK hNW hW (va_recv hK (cw8 hW) (ci := 3) (q0 := 0) rfl rfl) hS hz (fun q h => h) (c3_weigh l D cT ad τ ρ hI a.toNat (by omega) b.toNat (by omega)) gX7_cost_X3_weigh rfl rfl rfl (by decide +kernel) ⟨by decide, by decide⟩ rfl hl.1 rfl (Nat.le_of_ble_eq_true rfl) ⟨Nat.zero_le _, Nat.zero_le _⟩ dX7_cost_42 (fun ρ2 hq H locs hW hS hz => ?_)
      have hW : CW D cT ad τ ρ2 H := hW
      refine lv_aload_n hx hb dX7_cost_45 rfl (lv_at hl 2 rfl) ?_
      refine y_get (C := RX7) (T := TX7) (N := 11) (ref := "CoreShed") (ci := 7) hx hb hts hinX7 hown hK (cw0 hW) rfl 5 (by decide) (hts _ (by decide +kernel)) rfl (v := .ref (ad 8 0)) rfl dX7_cost_46 ?_
      refine y_get (C := RX3) (T := TX3) (N := 1) (ref := "CoreShed$Matching") (ci := 3) hx hb hts hinX3 hown hK (cw8 hW) rfl 0 (by decide) (hts _ (by decide +kernel)) rfl (v := .ref (ad 9 0)) rfl dX7_cost_49 ?_
      refine z_iconst hx hb dX7_cost_52 ?_
      refine y_aaldS (ty := .array .int) (j := 0) (q := ad 10 0) hx hb hK 6 rfl (cw9 hW) rfl (by omega) (by omega) (by decide) rfl dX7_cost_53 ?_
      refine z_iconst hx hb dX7_cost_54 ?_
      refine y_iald (j := 0) hx hb hK 0 (cw10 hW (i := 0) (by omega)) rfl (by omega) (by omega) (by decide) dX7_cost_55 ?_
      refine z_top (show ρ2 (2 + 0) 0 = CS τ a.toNat b.toNat (τ 8 (2 * a.toNat)).toNat (τ 8 (2 * b.toNat)).toNat from by have := hq (τ 8 (2 * a.toNat)).toNat (τ 8 (2 * b.toNat)).toNat (Nat.le_refl _) (Nat.le_refl _); rw [Nat.sub_self, Nat.sub_self] at this; exact this) ?_
      exact c_iret hx hb hr hlocks (⟨trivial, hW⟩) hS hz (by unfold spCost; repeat (first | rw [if_pos (by first | assumption | omega)] | rw [if_neg (by first | assumption | omega | (intro hk; exact hk (by assumption)))])) dX7_cost_56
    · refine lv_aload_n hx hb dX7_cost_0 rfl (lv_at hl 0 rfl) ?_
      refine lv_iload_n hx hb dX7_cost_1 rfl (lv_at hl 1 rfl) ?_
      refine c_callR (n := 1) (As := [.int (iI (a))]) (rest := []) hx hb hml hts hown hK hNW hW (va_recv hK (cw0 hW) (ci := 7) (q0 := 0) rfl rfl) (c7_holeNamed_some l D cT ad τ ρ hI a.toNat a (by omega) (by omega)) gX7_cost_X7_holeNamed rfl rfl rfl (by decide +kernel) ⟨by decide, by decide⟩ rfl hl.1 rfl (Nat.le_of_ble_eq_true rfl) ⟨Nat.zero_le _, Nat.zero_le _⟩ dX7_cost_2 ?_
      refine lv_astore_n (lv' := [(3, .ref (ad 11 a.toNat)), (0, .ref (ad 0 0)), (1, .int (iI (a))), (2, .int (iI (b)))]) hx hb dX7_cost_5 rfl hl (by decide) rfl (fun ls hl => ?_)
      refine lv_aload_n hx hb dX7_cost_6 rfl (lv_at hl 1 rfl) ?_
      refine lv_iload_n hx hb dX7_cost_7 rfl (lv_at hl 3 rfl) ?_
      refine c_callR (n := 1) (As := [.int (iI (b))]) (rest := []) hx hb hml hts hown hK hNW hW (va_recv hK (cw0 hW) (ci := 7) (q0 := 0) rfl rfl) (c7_holeNamed_none l D cT ad τ ρ hI b (by omega) (by omega)) gX7_cost_X7_holeNamed rfl rfl rfl (by decide +kernel) ⟨by decide, by decide⟩ rfl hl.1 rfl (Nat.le_of_ble_eq_true rfl) ⟨Nat.zero_le _, Nat.zero_le _⟩ dX7_cost_8 ?_
      refine lv_astoreN (lv' := [(4, .null), (3, .ref (ad 11 a.toNat)), (0, .ref (ad 0 0)), (1, .int (iI (a))), (2, .int (iI (b)))]) hx hb dX7_cost_11 hl (by decide) rfl (fun ls hl => ?_)
      refine lv_aload_n hx hb dX7_cost_13 rfl (lv_at hl 1 rfl) ?_
      refine lv_ifnull hx hb dX7_cost_14 ?_
      refine lv_aloadN hx hb dX7_cost_17 (lv_at hl 0 rfl) ?_
      refine lv_ifnonnullN hx hb dX7_cost_19 ?_
      refine z_bipush hx hb dX7_cost_22 (by decide) ?_
      exact c_iret hx hb hr hlocks (⟨trivial, hW⟩) hS hz (by unfold spCost; repeat (first | rw [if_pos (by first | assumption | omega)] | rw [if_neg (by first | assumption | omega | (intro hk; exact hk (by assumption)))])) dX7_cost_24
  · by_cases hh2 : 0 ≤ b ∧ b < τ 0 0
    · refine lv_aload_n hx hb dX7_cost_0 rfl (lv_at hl 0 rfl) ?_
      refine lv_iload_n hx hb dX7_cost_1 rfl (lv_at hl 1 rfl) ?_
      refine c_callR (n := 1) (As := [.int (iI (a))]) (rest := []) hx hb hml hts hown hK hNW hW (va_recv hK (cw0 hW) (ci := 7) (q0 := 0) rfl rfl) (c7_holeNamed_none l D cT ad τ ρ hI a (by omega) (by omega)) gX7_cost_X7_holeNamed rfl rfl rfl (by decide +kernel) ⟨by decide, by decide⟩ rfl hl.1 rfl (Nat.le_of_ble_eq_true rfl) ⟨Nat.zero_le _, Nat.zero_le _⟩ dX7_cost_2 ?_
      refine lv_astore_nN (lv' := [(3, .null), (0, .ref (ad 0 0)), (1, .int (iI (a))), (2, .int (iI (b)))]) hx hb dX7_cost_5 rfl hl (by decide) rfl (fun ls hl => ?_)
      refine lv_aload_n hx hb dX7_cost_6 rfl (lv_at hl 1 rfl) ?_
      refine lv_iload_n hx hb dX7_cost_7 rfl (lv_at hl 3 rfl) ?_
      refine c_callR (n := 1) (As := [.int (iI (b))]) (rest := []) hx hb hml hts hown hK hNW hW (va_recv hK (cw0 hW) (ci := 7) (q0 := 0) rfl rfl) (c7_holeNamed_some l D cT ad τ ρ hI b.toNat b (by omega) (by omega)) gX7_cost_X7_holeNamed rfl rfl rfl (by decide +kernel) ⟨by decide, by decide⟩ rfl hl.1 rfl (Nat.le_of_ble_eq_true rfl) ⟨Nat.zero_le _, Nat.zero_le _⟩ dX7_cost_8 ?_
      refine lv_astore (lv' := [(4, .ref (ad 11 b.toNat)), (3, .null), (0, .ref (ad 0 0)), (1, .int (iI (a))), (2, .int (iI (b)))]) hx hb dX7_cost_11 hl (by decide) rfl (fun ls hl => ?_)
      refine lv_aload_nN hx hb dX7_cost_13 rfl (lv_at hl 1 rfl) ?_
      refine lv_ifnullN (tgt := 22) hx hb dX7_cost_14 (by decide) ?_
      refine z_bipush hx hb dX7_cost_22 (by decide) ?_
      exact c_iret hx hb hr hlocks (⟨trivial, hW⟩) hS hz (by unfold spCost; repeat (first | rw [if_pos (by first | assumption | omega)] | rw [if_neg (by first | assumption | omega | (intro hk; exact hk (by assumption)))])) dX7_cost_24
    · refine lv_aload_n hx hb dX7_cost_0 rfl (lv_at hl 0 rfl) ?_
      refine lv_iload_n hx hb dX7_cost_1 rfl (lv_at hl 1 rfl) ?_
      refine c_callR (n := 1) (As := [.int (iI (a))]) (rest := []) hx hb hml hts hown hK hNW hW (va_recv hK (cw0 hW) (ci := 7) (q0 := 0) rfl rfl) (c7_holeNamed_none l D cT ad τ ρ hI a (by omega) (by omega)) gX7_cost_X7_holeNamed rfl rfl rfl (by decide +kernel) ⟨by decide, by decide⟩ rfl hl.1 rfl (Nat.le_of_ble_eq_true rfl) ⟨Nat.zero_le _, Nat.zero_le _⟩ dX7_cost_2 ?_
      refine lv_astore_nN (lv' := [(3, .null), (0, .ref (ad 0 0)), (1, .int (iI (a))), (2, .int (iI (b)))]) hx hb dX7_cost_5 rfl hl (by decide) rfl (fun ls hl => ?_)
      refine lv_aload_n hx hb dX7_cost_6 rfl (lv_at hl 1 rfl) ?_
      refine lv_iload_n hx hb dX7_cost_7 rfl (lv_at hl 3 rfl) ?_
      refine c_callR (n := 1) (As := [.int (iI (b))]) (rest := []) hx hb hml hts hown hK hNW hW (va_recv hK (cw0 hW) (ci := 7) (q0 := 0) rfl rfl) (c7_holeNamed_none l D cT ad τ ρ hI b (by omega) (by omega)) gX7_cost_X7_holeNamed rfl rfl rfl (by decide +kernel) ⟨by decide, by decide⟩ rfl hl.1 rfl (Nat.le_of_ble_eq_true rfl) ⟨Nat.zero_le _, Nat.zero_le _⟩ dX7_cost_8 ?_
      refine lv_astoreN (lv' := [(4, .null), (3, .null), (0, .ref (ad 0 0)), (1, .int (iI (a))), (2, .int (iI (b)))]) hx hb dX7_cost_11 hl (by decide) rfl (fun ls hl => ?_)
      refine lv_aload_nN hx hb dX7_cost_13 rfl (lv_at hl 1 rfl) ?_
      refine lv_ifnullN (tgt := 22) hx hb dX7_cost_14 (by decide) ?_
      refine z_bipush hx hb dX7_cost_22 (by decide) ?_
      exact c_iret hx hb hr hlocks (⟨trivial, hW⟩) hS hz (by unfold spCost; repeat (first | rw [if_pos (by first | assumption | omega)] | rw [if_neg (by first | assumption | omega | (intro hk; exact hk (by assumption)))])) dX7_cost_24
set_option maxHeartbeats 4000000 in
set_option maxRecDepth 100000 in
theorem c7_matched (l : Launch) (D : va_G) (cT : Nat → ClassId) (ad : Adr) (τ ρ : Tau) (hI : Rng τ) (a : Int) (h_a : I32 a) (b : Int) (h_b : I32 b) (k : Int) (h_k : I32 k)  : Met l yX7_matched wsX7_matched { frames := 5, cells := 0, slots := 0, locals := 120 } (cPc D cT ad τ ρ [.ref (ad 0 0), .int (iI (a)), .int (iI (b)), .int (iI (k))]) (cQ D cT ad (some (.int (iI (spMat τ a b k)))) τ (τ) (fun _ => True)) 0 0 (CA ad τ) := by
  refine c_start (by decide) rfl (Nat.le_of_ble_eq_true rfl) ?_
  intro p e s m below meth c hx hb hr hlocks hml hts hown hW hK hNW ls hl
  have hinX1 : ∀ w ∈ wsX10, w ∈ wsX7_matched := by decide +kernel
  have hinX2 : ∀ w ∈ wsX20, w ∈ wsX7_matched := by decide +kernel
  have hinX7 : ∀ w ∈ wsX70, w ∈ wsX7_matched := by decide +kernel
  have hS : va_S (CA ad τ) s.heap s.heap [] := va_S.rf
  have hz : s.heap.size = s.heap.size := rfl
  have hR : Rng τ := hI
  have hl : lv_has ls 6 [(0, .ref (ad 0 0)), (1, .int (iI (a))), (2, .int (iI (b))), (3, .int (iI (k)))] := hl
  have hq0_0 : (0 : Int) ≤ τ 0 0 ∧ τ 0 0 ≤ 4 := hI 0 0
  have hq8_2atoNat : (0 : Int) ≤ τ 8 (2 * a.toNat) ∧ τ 8 (2 * a.toNat) ≤ 20 := hI 8 (2 * a.toNat)
  by_cases hh : 0 ≤ a ∧ a < τ 0 0
  · by_cases hh2 : 0 ≤ b ∧ b < τ 0 0
    · refine lv_aload_n hx hb dX7_matched_0 rfl (lv_at hl 0 rfl) ?_
      refine lv_iload_n hx hb dX7_matched_1 rfl (lv_at hl 1 rfl) ?_
      refine c_callR (n := 1) (As := [.int (iI (a))]) (rest := []) hx hb hml hts hown hK hNW hW (va_recv hK (cw0 hW) (ci := 7) (q0 := 0) rfl rfl) (c7_holeNamed_some l D cT ad τ ρ hI a.toNat a (by omega) (by omega)) gX7_matched_X7_holeNamed rfl rfl rfl (by decide +kernel) ⟨by decide, by decide⟩ rfl hl.1 rfl (Nat.le_of_ble_eq_true rfl) ⟨Nat.zero_le _, Nat.zero_le _⟩ dX7_matched_2 ?_
      refine lv_astore (lv' := [(4, .ref (ad 11 a.toNat)), (0, .ref (ad 0 0)), (1, .int (iI (a))), (2, .int (iI (b))), (3, .int (iI (k)))]) hx hb dX7_matched_5 hl (by decide) rfl (fun ls hl => ?_)
      refine lv_aload_n hx hb dX7_matched_7 rfl (lv_at hl 1 rfl) ?_
      refine lv_iload_n hx hb dX7_matched_8 rfl (lv_at hl 3 rfl) ?_
      refine c_callR (n := 1) (As := [.int (iI (b))]) (rest := []) hx hb hml hts hown hK hNW hW (va_recv hK (cw0 hW) (ci := 7) (q0 := 0) rfl rfl) (c7_holeNamed_some l D cT ad τ ρ hI b.toNat b (by omega) (by omega)) gX7_matched_X7_holeNamed rfl rfl rfl (by decide +kernel) ⟨by decide, by decide⟩ rfl hl.1 rfl (Nat.le_of_ble_eq_true rfl) ⟨Nat.zero_le _, Nat.zero_le _⟩ dX7_matched_9 ?_
      refine lv_astore (lv' := [(5, .ref (ad 11 b.toNat)), (4, .ref (ad 11 a.toNat)), (0, .ref (ad 0 0)), (1, .int (iI (a))), (2, .int (iI (b))), (3, .int (iI (k)))]) hx hb dX7_matched_12 hl (by decide) rfl (fun ls hl => ?_)
      refine lv_aload hx hb dX7_matched_14 (lv_at hl 1 rfl) ?_
      refine lv_ifnull hx hb dX7_matched_16 ?_
      refine lv_aload hx hb dX7_matched_19 (lv_at hl 0 rfl) ?_
      refine lv_ifnull hx hb dX7_matched_21 ?_
      refine lv_iload_n hx hb dX7_matched_24 rfl (lv_at hl 5 rfl) ?_
      refine z_if_lt (tgt := 40) hx hb (by omega) dX7_matched_25 (by decide) (fun c1 => ?_) (fun c1 => ?_)
      · refine z_bipush hx hb dX7_matched_40 (by decide) ?_
        exact c_iret hx hb hr hlocks (⟨trivial, hW⟩) hS hz (by unfold spMat; repeat (first | rw [if_pos (by first | assumption | omega)] | rw [if_neg (by first | assumption | omega | (intro hk; exact hk (by assumption)))])) dX7_matched_42
      · refine lv_iload_n hx hb dX7_matched_28 rfl (lv_at hl 5 rfl) ?_
        refine lv_aload hx hb dX7_matched_29 (lv_at hl 1 rfl) ?_
        refine y_get (C := RX1) (T := TX1) (N := 8) (ref := "CoreShed$Hole") (ci := 1) hx hb hts hinX1 hown hK (cw11 hW (i := a.toNat) (by omega)) rfl 3 (by decide) (hts _ (by decide +kernel)) rfl (v := .ref (ad 15 (2 * a.toNat))) rfl dX7_matched_31 ?_
        refine y_get (C := RX2) (T := TX2) (N := 3) (ref := "CoreShed$Log") (ci := 2) hx hb hts hinX2 hown hK (cw15 hW (i := 2 * a.toNat) (by omega)) rfl 2 (by decide) (hts _ (by decide +kernel)) rfl (v := .int (iI (τ 8 (2 * a.toNat)))) rfl dX7_matched_34 ?_
        have r2 : (0 : Int) ≤ τ 8 (2 * a.toNat) ∧ τ 8 (2 * a.toNat) ≤ 20 := hI 8 (2 * a.toNat)
        refine z_icmp_lt (tgt := 43) hx hb (by omega) (by omega) dX7_matched_37 (by decide) (fun c3 => ?_) (fun c3 => ?_)
        · refine lv_aload_n hx hb dX7_matched_43 rfl (lv_at hl 2 rfl) ?_
          refine y_get (C := RX7) (T := TX7) (N := 11) (ref := "CoreShed") (ci := 7) hx hb hts hinX7 hown hK (cw0 hW) rfl 5 (by decide) (hts _ (by decide +kernel)) rfl (v := .ref (ad 8 0)) rfl dX7_matched_44 ?_
          refine lv_aload hx hb dX7_matched_47 (lv_at hl 1 rfl) ?_
          refine y_get (C := RX1) (T := TX1) (N := 8) (ref := "CoreShed$Hole") (ci := 1) hx hb hts hinX1 hown hK (cw11 hW (i := a.toNat) (by omega)) rfl 3 (by decide) (hts _ (by decide +kernel)) rfl (v := .ref (ad 15 (2 * a.toNat))) rfl dX7_matched_49 ?_
          refine lv_aload hx hb dX7_matched_52 (lv_at hl 0 rfl) ?_
          refine y_get (C := RX1) (T := TX1) (N := 8) (ref := "CoreShed$Hole") (ci := 1) hx hb hts hinX1 hown hK (cw11 hW (i := b.toNat) (by omega)) rfl 3 (by decide) (hts _ (by decide +kernel)) rfl (v := .ref (ad 15 (2 * b.toNat))) rfl dX7_matched_54 ?_
          refine lv_aload_n hx hb dX7_matched_57 rfl (lv_at hl 2 rfl) ?_
          refine y_get (C := RX7) (T := TX7) (N := 11) (ref := "CoreShed") (ci := 7) hx hb hts hinX7 hown hK (cw0 hW) rfl 3 (by decide) (hts _ (by decide +kernel)) rfl (v := .ref (ad 4 0)) rfl dX7_matched_58 ?_
          refine c_callW (n := 3) (As := [.ref (ad 15 (2 * a.toNat)), .ref (ad 15 (2 * b.toNat)), .ref (ad 4 0)]) (rest := []) hx hb hml hts hown hK hNW hW (va_recv hK (cw8 hW) (ci := 3) (q0 := 0) rfl rfl) hS hz (fun q h => h) (c3_weigh l D cT ad τ ρ hI a.toNat (by omega) b.toNat (by omega)) gX7_matched_X3_weigh rfl rfl rfl (by decide +kernel) ⟨by decide, by decide⟩ rfl hl.1 rfl (Nat.le_of_ble_eq_true rfl) ⟨Nat.zero_le _, Nat.zero_le _⟩ dX7_matched_61 (fun ρ2 hq H locs hW hS hz => ?_)
          have hW : CW D cT ad τ ρ2 H := hW
          refine lv_aload_n hx hb dX7_matched_64 rfl (lv_at hl 2 rfl) ?_
          refine y_get (C := RX7) (T := TX7) (N := 11) (ref := "CoreShed") (ci := 7) hx hb hts hinX7 hown hK (cw0 hW) rfl 5 (by decide) (hts _ (by decide +kernel)) rfl (v := .ref (ad 8 0)) rfl dX7_matched_65 ?_
          refine lv_iload_n hx hb dX7_matched_68 rfl (lv_at hl 5 rfl) ?_
          refine lv_aload hx hb dX7_matched_69 (lv_at hl 1 rfl) ?_
          refine y_get (C := RX1) (T := TX1) (N := 8) (ref := "CoreShed$Hole") (ci := 1) hx hb hts hinX1 hown hK (cw11 hW (i := a.toNat) (by omega)) rfl 3 (by decide) (hts _ (by decide +kernel)) rfl (v := .ref (ad 15 (2 * a.toNat))) rfl dX7_matched_71 ?_
          refine lv_aload hx hb dX7_matched_74 (lv_at hl 0 rfl) ?_
          refine y_get (C := RX1) (T := TX1) (N := 8) (ref := "CoreShed$Hole") (ci := 1) hx hb hts hinX1 hown hK (cw11 hW (i := b.toNat) (by omega)) rfl 3 (by decide) (hts _ (by decide +kernel)) rfl (v := .ref (ad 15 (2 * b.toNat))) rfl dX7_matched_76 ?_
          refine lv_aload_n hx hb dX7_matched_79 rfl (lv_at hl 2 rfl) ?_
          refine y_get (C := RX7) (T := TX7) (N := 11) (ref := "CoreShed") (ci := 7) hx hb hts hinX7 hown hK (cw0 hW) rfl 3 (by decide) (hts _ (by decide +kernel)) rfl (v := .ref (ad 4 0)) rfl dX7_matched_80 ?_
          refine c_call (n := 4) (As := [.int (iI (k)), .ref (ad 15 (2 * a.toNat)), .ref (ad 15 (2 * b.toNat)), .ref (ad 4 0)]) (rest := []) hx hb hml hts hown hK hNW hW (va_recv hK (cw8 hW) (ci := 3) (q0 := 0) rfl rfl) (c3_partnerOf l D cT ad τ ρ2 hI a.toNat (by omega) b.toNat (by omega) k.toNat k (by omega) (by omega) hq) gX7_matched_X3_partnerOf rfl rfl rfl (by decide +kernel) ⟨by decide, by decide⟩ rfl hl.1 rfl (Nat.le_of_ble_eq_true rfl) ⟨Nat.zero_le _, Nat.zero_le _⟩ dX7_matched_83 ?_
          exact c_iret hx hb hr hlocks (⟨trivial, hW⟩) hS hz (by unfold spMat; repeat (first | rw [if_pos (by first | assumption | omega)] | rw [if_neg (by first | assumption | omega | (intro hk; exact hk (by assumption)))])) dX7_matched_86
        · refine z_bipush hx hb dX7_matched_40 (by decide) ?_
          exact c_iret hx hb hr hlocks (⟨trivial, hW⟩) hS hz (by unfold spMat; repeat (first | rw [if_pos (by first | assumption | omega)] | rw [if_neg (by first | assumption | omega | (intro hk; exact hk (by assumption)))])) dX7_matched_42
    · refine lv_aload_n hx hb dX7_matched_0 rfl (lv_at hl 0 rfl) ?_
      refine lv_iload_n hx hb dX7_matched_1 rfl (lv_at hl 1 rfl) ?_
      refine c_callR (n := 1) (As := [.int (iI (a))]) (rest := []) hx hb hml hts hown hK hNW hW (va_recv hK (cw0 hW) (ci := 7) (q0 := 0) rfl rfl) (c7_holeNamed_some l D cT ad τ ρ hI a.toNat a (by omega) (by omega)) gX7_matched_X7_holeNamed rfl rfl rfl (by decide +kernel) ⟨by decide, by decide⟩ rfl hl.1 rfl (Nat.le_of_ble_eq_true rfl) ⟨Nat.zero_le _, Nat.zero_le _⟩ dX7_matched_2 ?_
      refine lv_astore (lv' := [(4, .ref (ad 11 a.toNat)), (0, .ref (ad 0 0)), (1, .int (iI (a))), (2, .int (iI (b))), (3, .int (iI (k)))]) hx hb dX7_matched_5 hl (by decide) rfl (fun ls hl => ?_)
      refine lv_aload_n hx hb dX7_matched_7 rfl (lv_at hl 1 rfl) ?_
      refine lv_iload_n hx hb dX7_matched_8 rfl (lv_at hl 3 rfl) ?_
      refine c_callR (n := 1) (As := [.int (iI (b))]) (rest := []) hx hb hml hts hown hK hNW hW (va_recv hK (cw0 hW) (ci := 7) (q0 := 0) rfl rfl) (c7_holeNamed_none l D cT ad τ ρ hI b (by omega) (by omega)) gX7_matched_X7_holeNamed rfl rfl rfl (by decide +kernel) ⟨by decide, by decide⟩ rfl hl.1 rfl (Nat.le_of_ble_eq_true rfl) ⟨Nat.zero_le _, Nat.zero_le _⟩ dX7_matched_9 ?_
      refine lv_astoreN (lv' := [(5, .null), (4, .ref (ad 11 a.toNat)), (0, .ref (ad 0 0)), (1, .int (iI (a))), (2, .int (iI (b))), (3, .int (iI (k)))]) hx hb dX7_matched_12 hl (by decide) rfl (fun ls hl => ?_)
      refine lv_aload hx hb dX7_matched_14 (lv_at hl 1 rfl) ?_
      refine lv_ifnull hx hb dX7_matched_16 ?_
      refine lv_aloadN hx hb dX7_matched_19 (lv_at hl 0 rfl) ?_
      refine lv_ifnullN (tgt := 40) hx hb dX7_matched_21 (by decide) ?_
      refine z_bipush hx hb dX7_matched_40 (by decide) ?_
      exact c_iret hx hb hr hlocks (⟨trivial, hW⟩) hS hz (by unfold spMat; repeat (first | rw [if_pos (by first | assumption | omega)] | rw [if_neg (by first | assumption | omega | (intro hk; exact hk (by assumption)))])) dX7_matched_42
  · by_cases hh2 : 0 ≤ b ∧ b < τ 0 0
    · refine lv_aload_n hx hb dX7_matched_0 rfl (lv_at hl 0 rfl) ?_
      refine lv_iload_n hx hb dX7_matched_1 rfl (lv_at hl 1 rfl) ?_
      refine c_callR (n := 1) (As := [.int (iI (a))]) (rest := []) hx hb hml hts hown hK hNW hW (va_recv hK (cw0 hW) (ci := 7) (q0 := 0) rfl rfl) (c7_holeNamed_none l D cT ad τ ρ hI a (by omega) (by omega)) gX7_matched_X7_holeNamed rfl rfl rfl (by decide +kernel) ⟨by decide, by decide⟩ rfl hl.1 rfl (Nat.le_of_ble_eq_true rfl) ⟨Nat.zero_le _, Nat.zero_le _⟩ dX7_matched_2 ?_
      refine lv_astoreN (lv' := [(4, .null), (0, .ref (ad 0 0)), (1, .int (iI (a))), (2, .int (iI (b))), (3, .int (iI (k)))]) hx hb dX7_matched_5 hl (by decide) rfl (fun ls hl => ?_)
      refine lv_aload_n hx hb dX7_matched_7 rfl (lv_at hl 1 rfl) ?_
      refine lv_iload_n hx hb dX7_matched_8 rfl (lv_at hl 3 rfl) ?_
      refine c_callR (n := 1) (As := [.int (iI (b))]) (rest := []) hx hb hml hts hown hK hNW hW (va_recv hK (cw0 hW) (ci := 7) (q0 := 0) rfl rfl) (c7_holeNamed_some l D cT ad τ ρ hI b.toNat b (by omega) (by omega)) gX7_matched_X7_holeNamed rfl rfl rfl (by decide +kernel) ⟨by decide, by decide⟩ rfl hl.1 rfl (Nat.le_of_ble_eq_true rfl) ⟨Nat.zero_le _, Nat.zero_le _⟩ dX7_matched_9 ?_
      refine lv_astore (lv' := [(5, .ref (ad 11 b.toNat)), (4, .null), (0, .ref (ad 0 0)), (1, .int (iI (a))), (2, .int (iI (b))), (3, .int (iI (k)))]) hx hb dX7_matched_12 hl (by decide) rfl (fun ls hl => ?_)
      refine lv_aloadN hx hb dX7_matched_14 (lv_at hl 1 rfl) ?_
      refine lv_ifnullN (tgt := 40) hx hb dX7_matched_16 (by decide) ?_
      refine z_bipush hx hb dX7_matched_40 (by decide) ?_
      exact c_iret hx hb hr hlocks (⟨trivial, hW⟩) hS hz (by unfold spMat; repeat (first | rw [if_pos (by first | assumption | omega)] | rw [if_neg (by first | assumption | omega | (intro hk; exact hk (by assumption)))])) dX7_matched_42
    · refine lv_aload_n hx hb dX7_matched_0 rfl (lv_at hl 0 rfl) ?_
      refine lv_iload_n hx hb dX7_matched_1 rfl (lv_at hl 1 rfl) ?_
      refine c_callR (n := 1) (As := [.int (iI (a))]) (rest := []) hx hb hml hts hown hK hNW hW (va_recv hK (cw0 hW) (ci := 7) (q0 := 0) rfl rfl) (c7_holeNamed_none l D cT ad τ ρ hI a (by omega) (by omega)) gX7_matched_X7_holeNamed rfl rfl rfl (by decide +kernel) ⟨by decide, by decide⟩ rfl hl.1 rfl (Nat.le_of_ble_eq_true rfl) ⟨Nat.zero_le _, Nat.zero_le _⟩ dX7_matched_2 ?_
      refine lv_astoreN (lv' := [(4, .null), (0, .ref (ad 0 0)), (1, .int (iI (a))), (2, .int (iI (b))), (3, .int (iI (k)))]) hx hb dX7_matched_5 hl (by decide) rfl (fun ls hl => ?_)
      refine lv_aload_n hx hb dX7_matched_7 rfl (lv_at hl 1 rfl) ?_
      refine lv_iload_n hx hb dX7_matched_8 rfl (lv_at hl 3 rfl) ?_
      refine c_callR (n := 1) (As := [.int (iI (b))]) (rest := []) hx hb hml hts hown hK hNW hW (va_recv hK (cw0 hW) (ci := 7) (q0 := 0) rfl rfl) (c7_holeNamed_none l D cT ad τ ρ hI b (by omega) (by omega)) gX7_matched_X7_holeNamed rfl rfl rfl (by decide +kernel) ⟨by decide, by decide⟩ rfl hl.1 rfl (Nat.le_of_ble_eq_true rfl) ⟨Nat.zero_le _, Nat.zero_le _⟩ dX7_matched_9 ?_
      refine lv_astoreN (lv' := [(5, .null), (4, .null), (0, .ref (ad 0 0)), (1, .int (iI (a))), (2, .int (iI (b))), (3, .int (iI (k)))]) hx hb dX7_matched_12 hl (by decide) rfl (fun ls hl => ?_)
      refine lv_aloadN hx hb dX7_matched_14 (lv_at hl 1 rfl) ?_
      refine lv_ifnullN (tgt := 40) hx hb dX7_matched_16 (by decide) ?_
      refine z_bipush hx hb dX7_matched_40 (by decide) ?_
      exact c_iret hx hb hr hlocks (⟨trivial, hW⟩) hS hz (by unfold spMat; repeat (first | rw [if_pos (by first | assumption | omega)] | rw [if_neg (by first | assumption | omega | (intro hk; exact hk (by assumption)))])) dX7_matched_42
