set_option maxHeartbeats 4000000 in
set_option maxRecDepth 100000 in
theorem c8_hole (l : Launch) (D : va_G) (cI cZ : ClassId) (ad : Nat → Nat) (τ : Tau) (hI : Rng τ)   : Met l yX8_hole wsX8_hole { frames := 0, cells := 0, slots := 0, locals := 0 } (mPc D cI cZ ad τ [.ref (ad 0)]) (mQ D cI cZ ad (some (.int (iI (spHole τ)))) (stHole τ)) 0 0 (MA ad) := by
  refine m_start (by decide) rfl (Nat.le_of_ble_eq_true rfl) ?_
  intro p e s m below meth c hx hb hr hlocks hml hts hown hW hK ls hl
  have hin8 : ∀ w ∈ wsX80, w ∈ wsX8_hole := by decide +kernel
  have hS : va_S (MA ad) s.heap s.heap [] := va_S.rf
  have hz : s.heap.size = s.heap.size := rfl
  have hR : Rng τ := hI
  have hl : lv_has ls 1 [(0, .ref (ad 0))] := hl
  refine lv_aload_n hx hb dX8_hole_0 rfl (lv_at hl 0 rfl) ?_
  refine m_get hx hb hts hin8 hown hK hW 0 (by decide) (hts _ (by decide +kernel)) (v := .int (iI (τ 0 0))) rfl dX8_hole_1 ?_
  have r1 : (0 : Int) ≤ τ 0 0 ∧ τ 0 0 ≤ 4 := hI 0 0
  refine z_iconst hx hb dX8_hole_4 ?_
  refine z_icmp_ne (tgt := 11) hx hb (by omega) (by omega) dX8_hole_5 (by decide) (fun c2 => ?_) (fun c2 => ?_)
  · refine lv_aload_n hx hb dX8_hole_11 rfl (lv_at hl 0 rfl) ?_
    refine lv_dup hx hb dX8_hole_12 rfl ?_
    refine m_get hx hb hts hin8 hown hK hW 0 (by decide) (hts _ (by decide +kernel)) (v := .int (iI (τ 0 0))) rfl dX8_hole_13 ?_
    refine z_iconst hx hb dX8_hole_16 ?_
    refine z_iadd hx hb dX8_hole_17 ?_
    refine m_put (v := (τ 0 0) + 1) hx hb hts hin8 hown hK hW hS hz 0 (by decide) (by decide) (hts _ (by decide +kernel)) rfl (by decide +kernel) rfl dX8_hole_18 (fun H locs hW hS hz => ?_)
    have hR := Rng.tu (c := 0) (i := 0) (v := (τ 0 0) + 1) hR (show (0 : Int) ≤ (τ 0 0) + 1 from by omega) (show (τ 0 0) + 1 ≤ 4 from by omega)
    refine lv_aload_n hx hb dX8_hole_21 rfl (lv_at hl 0 rfl) ?_
    refine m_get hx hb hts hin8 hown hK hW 0 (by decide) (hts _ (by decide +kernel)) (v := .int (iI ((tu τ 0 0 ((τ 0 0) + 1)) 0 0))) rfl dX8_hole_22 ?_
    refine z_top (show (tu τ 0 0 ((τ 0 0) + 1)) 0 0 = (τ 0 0) + 1 from by rw [tu_s]) ?_
    refine z_iconst hx hb dX8_hole_25 ?_
    refine z_isub hx hb dX8_hole_26 ?_
    exact m_iret hx hb hr hlocks (by unfold stHole; rw [if_pos (by omega)]; exact hW) hS hz (by unfold spHole; rw [if_neg (by omega)]; omega) dX8_hole_27
  · refine z_bipush hx hb dX8_hole_8 (by decide) ?_
    exact m_iret hx hb hr hlocks (by unfold stHole; rw [if_neg (by omega)]; exact hW) hS hz (by unfold spHole; repeat (first | rw [if_pos (by first | assumption | omega)] | rw [if_neg (by first | assumption | omega | (intro hk; exact hk (by assumption)))]) <;> omega) dX8_hole_10
set_option maxHeartbeats 4000000 in
set_option maxRecDepth 100000 in
theorem c8_batch (l : Launch) (D : va_G) (cI cZ : ClassId) (ad : Nat → Nat) (τ : Tau) (hI : Rng τ)   : Met l yX8_batch wsX8_batch { frames := 0, cells := 0, slots := 0, locals := 0 } (mPc D cI cZ ad τ [.ref (ad 0)]) (mQ D cI cZ ad (some (.int (iI (spBatch τ)))) (stBatch τ)) 0 0 (MA ad) := by
  refine m_start (by decide) rfl (Nat.le_of_ble_eq_true rfl) ?_
  intro p e s m below meth c hx hb hr hlocks hml hts hown hW hK ls hl
  have hin8 : ∀ w ∈ wsX80, w ∈ wsX8_batch := by decide +kernel
  have hS : va_S (MA ad) s.heap s.heap [] := va_S.rf
  have hz : s.heap.size = s.heap.size := rfl
  have hR : Rng τ := hI
  have hl : lv_has ls 1 [(0, .ref (ad 0))] := hl
  refine lv_aload_n hx hb dX8_batch_0 rfl (lv_at hl 0 rfl) ?_
  refine m_get hx hb hts hin8 hown hK hW 18 (by decide) (hts _ (by decide +kernel)) (v := .int (iI (τ 18 0))) rfl dX8_batch_1 ?_
  have r1 : (0 : Int) ≤ τ 18 0 ∧ τ 18 0 ≤ 6 := hI 18 0
  refine z_bipush hx hb dX8_batch_4 (by decide) ?_
  refine z_icmp_ne (tgt := 12) hx hb (by omega) (by omega) dX8_batch_6 (by decide) (fun c2 => ?_) (fun c2 => ?_)
  · refine lv_aload_n hx hb dX8_batch_12 rfl (lv_at hl 0 rfl) ?_
    refine lv_dup hx hb dX8_batch_13 rfl ?_
    refine m_get hx hb hts hin8 hown hK hW 18 (by decide) (hts _ (by decide +kernel)) (v := .int (iI (τ 18 0))) rfl dX8_batch_14 ?_
    refine z_iconst hx hb dX8_batch_17 ?_
    refine z_iadd hx hb dX8_batch_18 ?_
    refine m_put (v := (τ 18 0) + 1) hx hb hts hin8 hown hK hW hS hz 18 (by decide) (by decide) (hts _ (by decide +kernel)) rfl (by decide +kernel) rfl dX8_batch_19 (fun H locs hW hS hz => ?_)
    have hR := Rng.tu (c := 18) (i := 0) (v := (τ 18 0) + 1) hR (show (0 : Int) ≤ (τ 18 0) + 1 from by omega) (show (τ 18 0) + 1 ≤ 6 from by omega)
    refine lv_aload_n hx hb dX8_batch_22 rfl (lv_at hl 0 rfl) ?_
    refine m_get hx hb hts hin8 hown hK hW 18 (by decide) (hts _ (by decide +kernel)) (v := .int (iI ((tu τ 18 0 ((τ 18 0) + 1)) 18 0))) rfl dX8_batch_23 ?_
    refine z_top (show (tu τ 18 0 ((τ 18 0) + 1)) 18 0 = (τ 18 0) + 1 from by rw [tu_s]) ?_
    refine z_iconst hx hb dX8_batch_26 ?_
    refine z_isub hx hb dX8_batch_27 ?_
    exact m_iret hx hb hr hlocks (by unfold stBatch; rw [if_pos (by omega)]; exact hW) hS hz (by unfold spBatch; rw [if_neg (by omega)]; omega) dX8_batch_28
  · refine z_bipush hx hb dX8_batch_9 (by decide) ?_
    exact m_iret hx hb hr hlocks (by unfold stBatch; rw [if_neg (by omega)]; exact hW) hS hz (by unfold spBatch; repeat (first | rw [if_pos (by first | assumption | omega)] | rw [if_neg (by first | assumption | omega | (intro hk; exact hk (by assumption)))])) dX8_batch_11
set_option maxHeartbeats 4000000 in
set_option maxRecDepth 100000 in
theorem c8_run (l : Launch) (D : va_G) (cI cZ : ClassId) (ad : Nat → Nat) (τ : Tau) (hI : Rng τ) (a : Int) (h_a : I32 a) (u : Int) (h_u : I32 u) (v : Int) (h_v : I32 v)  : Met l yX8_run wsX8_run { frames := 2, cells := 0, slots := 0, locals := 46 } (mPc D cI cZ ad τ [.ref (ad 0), .int (iI (a)), .int (iI (u)), .int (iI (v))]) (mQ D cI cZ ad (some (.int (iI (spRun τ a u v)))) (stRun τ a u v)) 0 0 (MA ad) := by
  refine m_start (by decide) rfl (Nat.le_of_ble_eq_true rfl) ?_
  intro p e s m below meth c hx hb hr hlocks hml hts hown hW hK ls hl
  have hin8 : ∀ w ∈ wsX80, w ∈ wsX8_run := by decide +kernel
  have hS : va_S (MA ad) s.heap s.heap [] := va_S.rf
  have hz : s.heap.size = s.heap.size := rfl
  have hR : Rng τ := hI
  have hl : lv_has ls 4 [(0, .ref (ad 0)), (1, .int (iI (a))), (2, .int (iI (u))), (3, .int (iI (v)))] := hl
  refine lv_aload_n hx hb dX8_run_0 rfl (lv_at hl 0 rfl) ?_
  refine lv_iload_n hx hb dX8_run_1 rfl (lv_at hl 1 rfl) ?_
  refine m_call (n := 1) (As := [.int (iI (a))]) (rest := []) hx hb hml hts hown hK hW (c8_isHole l D cI cZ ad τ hI a (by omega)) gX8_run_X8_isHole rfl rfl rfl (by decide +kernel) ⟨by decide, by decide⟩ rfl hl.1 rfl (Nat.le_of_ble_eq_true rfl) ⟨Nat.zero_le _, Nat.zero_le _⟩ dX8_run_2 ?_
  have r1 := (show (0 : Int) ≤ τ 0 0 ∧ τ 0 0 ≤ 4 from hI 0 0)
  refine z_if_neB (tgt := 11) hx hb dX8_run_5 (by decide) (fun c2 => ?_) (fun c2 => ?_)
  · refine lv_iload_n hx hb dX8_run_11 rfl (lv_at hl 2 rfl) ?_
    refine z_i2l hx hb (by omega) dX8_run_12 ?_
    refine z_lconst (n := 1) hx hb (by decide) dX8_run_13 ?_
    refine z_ldc2 (n := 1000) hx hb hown (hts (.constantLong RX8 95 (1000)) (by decide +kernel)) (by decide) dX8_run_14 ?_
    refine s_call (n := 3) (As := [.long (lL (u)), .long (lL (1)), .long (lL (1000))]) (rest := []) hx hb hml hts hown (c8_in l u (by omega) 1 (by omega) 1000 (by omega)) gX8_run_X8_in rfl rfl rfl (by decide +kernel) ⟨by decide, by decide⟩ rfl hl.1 rfl (Nat.le_of_ble_eq_true rfl) ⟨Nat.zero_le _, Nat.zero_le _⟩ dX8_run_17 ?_
    refine z_if_eqB (tgt := 34) hx hb dX8_run_20 (by decide) (fun c3 => ?_) (fun c3 => ?_)
    · refine z_bipush hx hb dX8_run_34 (by decide) ?_
      exact m_iret hx hb hr hlocks (by unfold stRun; rw [if_neg (fun hk => by first | omega | exact hk.1 (by assumption) | exact hk.2.1 (by assumption) | exact hk.2.2.1 (by assumption) | exact hk.2.2.2.1 (by assumption) | exact hk.2.2.2 (by assumption) | exact hk.2.2.2.2 (by assumption))]; exact hW) hS hz (by unfold spRun; repeat (first | rw [if_pos (by first | assumption | omega)] | rw [if_neg (by first | assumption | omega | (intro hk; exact hk (by assumption)))])) dX8_run_36
    · refine lv_iload_n hx hb dX8_run_23 rfl (lv_at hl 3 rfl) ?_
      refine z_i2l hx hb (by omega) dX8_run_24 ?_
      refine z_lconst (n := 0) hx hb (by decide) dX8_run_25 ?_
      refine lv_iload_n hx hb dX8_run_26 rfl (lv_at hl 2 rfl) ?_
      refine z_i2l hx hb (by omega) dX8_run_27 ?_
      refine s_call (n := 3) (As := [.long (lL (v)), .long (lL (0)), .long (lL (u))]) (rest := []) hx hb hml hts hown (c8_in l v (by omega) 0 (by omega) u (by omega)) gX8_run_X8_in rfl rfl rfl (by decide +kernel) ⟨by decide, by decide⟩ rfl hl.1 rfl (Nat.le_of_ble_eq_true rfl) ⟨Nat.zero_le _, Nat.zero_le _⟩ dX8_run_28 ?_
      refine z_if_neB (tgt := 37) hx hb dX8_run_31 (by decide) (fun c4 => ?_) (fun c4 => ?_)
      · refine lv_aload_n hx hb dX8_run_37 rfl (lv_at hl 0 rfl) ?_
        refine lv_iload_n hx hb dX8_run_38 rfl (lv_at hl 1 rfl) ?_
        refine m_call (n := 1) (As := [.int (iI (a))]) (rest := []) hx hb hml hts hown hK hW (c8_isUsed l D cI cZ ad τ hI a.toNat a (by omega) (by omega)) gX8_run_X8_isUsed rfl rfl rfl (by decide +kernel) ⟨by decide, by decide⟩ rfl hl.1 rfl (Nat.le_of_ble_eq_true rfl) ⟨Nat.zero_le _, Nat.zero_le _⟩ dX8_run_39 ?_
        refine z_if_eqB (tgt := 48) hx hb dX8_run_42 (by decide) (fun c5 => ?_) (fun c5 => ?_)
        · refine lv_aload_n hx hb dX8_run_48 rfl (lv_at hl 0 rfl) ?_
          refine m_get hx hb hts hin8 hown hK hW 1 (by decide) (hts _ (by decide +kernel)) (v := .ref (ad 1)) rfl dX8_run_49 ?_
          refine lv_iload_n hx hb dX8_run_52 rfl (lv_at hl 1 rfl) ?_
          refine m_ald (d := 1) (j := a.toNat) hx hb hK hW rfl (by omega) (show a.toNat < 4 from by omega) dX8_run_53 ?_
          have r6 : (0 : Int) ≤ τ 1 a.toNat ∧ τ 1 a.toNat ≤ 20 := hI 1 a.toNat
          refine z_bipush hx hb dX8_run_54 (by decide) ?_
          refine z_icmp_ne (tgt := 62) hx hb (by omega) (by omega) dX8_run_56 (by decide) (fun c7 => ?_) (fun c7 => ?_)
          · refine lv_aload_n hx hb dX8_run_62 rfl (lv_at hl 0 rfl) ?_
            refine m_get hx hb hts hin8 hown hK hW 2 (by decide) (hts _ (by decide +kernel)) (v := .ref (ad 2)) rfl dX8_run_63 ?_
            refine z_bipush hx hb dX8_run_66 (by decide) ?_
            refine lv_iload_n hx hb dX8_run_68 rfl (lv_at hl 1 rfl) ?_
            refine z_imul hx hb dX8_run_69 ?_
            refine lv_aload_n hx hb dX8_run_70 rfl (lv_at hl 0 rfl) ?_
            refine m_get hx hb hts hin8 hown hK hW 1 (by decide) (hts _ (by decide +kernel)) (v := .ref (ad 1)) rfl dX8_run_71 ?_
            refine lv_iload_n hx hb dX8_run_74 rfl (lv_at hl 1 rfl) ?_
            refine m_ald (d := 1) (j := a.toNat) hx hb hK hW rfl (by omega) (show a.toNat < 4 from by omega) dX8_run_75 ?_
            refine z_iadd hx hb dX8_run_76 ?_
            refine lv_iload_n hx hb dX8_run_77 rfl (lv_at hl 2 rfl) ?_
            refine m_ast (d := 2) (j := (20 * a.toNat) + ((τ 1 a.toNat).toNat)) (v := u) hx hb hK hW hS hz rfl (by omega) (show (20 * a.toNat) + ((τ 1 a.toNat).toNat) < 80 from by omega) dX8_run_78 (fun H locs hW hS hz => ?_)
            have hR := Rng.tu (c := 2) (i := (20 * a.toNat) + ((τ 1 a.toNat).toNat)) (v := u) hR (show (0 : Int) ≤ u from by omega) (show u ≤ 1000 from by omega)
            refine lv_aload_n hx hb dX8_run_79 rfl (lv_at hl 0 rfl) ?_
            refine m_get hx hb hts hin8 hown hK hW 3 (by decide) (hts _ (by decide +kernel)) (v := .ref (ad 3)) rfl dX8_run_80 ?_
            refine z_bipush hx hb dX8_run_83 (by decide) ?_
            refine lv_iload_n hx hb dX8_run_85 rfl (lv_at hl 1 rfl) ?_
            refine z_imul hx hb dX8_run_86 ?_
            refine lv_aload_n hx hb dX8_run_87 rfl (lv_at hl 0 rfl) ?_
            refine m_get hx hb hts hin8 hown hK hW 1 (by decide) (hts _ (by decide +kernel)) (v := .ref (ad 1)) rfl dX8_run_88 ?_
            refine lv_iload_n hx hb dX8_run_91 rfl (lv_at hl 1 rfl) ?_
            refine m_ald (d := 1) (j := a.toNat) hx hb hK hW rfl (by omega) (show a.toNat < 4 from by omega) dX8_run_92 ?_
            refine z_top (show (tu τ 2 ((20 * a.toNat) + ((τ 1 a.toNat).toNat)) u) 1 a.toNat = τ 1 a.toNat from by rw [tu_n (show 1 ≠ 2 by decide)]) ?_
            refine z_iadd hx hb dX8_run_93 ?_
            refine lv_iload_n hx hb dX8_run_94 rfl (lv_at hl 3 rfl) ?_
            refine m_ast (d := 3) (j := (20 * a.toNat) + ((τ 1 a.toNat).toNat)) (v := v) hx hb hK hW hS hz rfl (by omega) (show (20 * a.toNat) + ((τ 1 a.toNat).toNat) < 80 from by omega) dX8_run_95 (fun H locs hW hS hz => ?_)
            have hR := Rng.tu (c := 3) (i := (20 * a.toNat) + ((τ 1 a.toNat).toNat)) (v := v) hR (show (0 : Int) ≤ v from by omega) (show v ≤ 1000 from by omega)
            refine lv_aload_n hx hb dX8_run_96 rfl (lv_at hl 0 rfl) ?_
            refine m_get hx hb hts hin8 hown hK hW 1 (by decide) (hts _ (by decide +kernel)) (v := .ref (ad 1)) rfl dX8_run_97 ?_
            refine lv_iload_n hx hb dX8_run_100 rfl (lv_at hl 1 rfl) ?_
            refine lv_dup2_11 hx hb dX8_run_101 rfl rfl ?_
            refine m_ald (d := 1) (j := a.toNat) hx hb hK hW rfl (by omega) (show a.toNat < 4 from by omega) dX8_run_102 ?_
            refine z_top (show (tu (tu τ 2 ((20 * a.toNat) + ((τ 1 a.toNat).toNat)) u) 3 ((20 * a.toNat) + ((τ 1 a.toNat).toNat)) v) 1 a.toNat = τ 1 a.toNat from by rw [tu_n (show 1 ≠ 3 by decide), tu_n (show 1 ≠ 2 by decide)]) ?_
            refine z_iconst hx hb dX8_run_103 ?_
            refine z_iadd hx hb dX8_run_104 ?_
            refine m_ast (d := 1) (j := a.toNat) (v := (τ 1 a.toNat) + 1) hx hb hK hW hS hz rfl (by omega) (show a.toNat < 4 from by omega) dX8_run_105 (fun H locs hW hS hz => ?_)
            have hR := Rng.tu (c := 1) (i := a.toNat) (v := (τ 1 a.toNat) + 1) hR (show (0 : Int) ≤ (τ 1 a.toNat) + 1 from by omega) (show (τ 1 a.toNat) + 1 ≤ 20 from by omega)
            refine lv_aload_n hx hb dX8_run_106 rfl (lv_at hl 0 rfl) ?_
            refine lv_iload_n hx hb dX8_run_107 rfl (lv_at hl 1 rfl) ?_
            refine m_call (n := 1) (As := [.int (iI (a))]) (rest := []) hx hb hml hts hown hK hW (c8_endOf l D cI cZ ad (tu (tu (tu τ 2 ((20 * a.toNat) + ((τ 1 a.toNat).toNat)) u) 3 ((20 * a.toNat) + ((τ 1 a.toNat).toNat)) v) 1 a.toNat ((τ 1 a.toNat) + 1)) hR a.toNat a (by omega) (by omega)) gX8_run_X8_endOf rfl rfl rfl (by decide +kernel) ⟨by decide, by decide⟩ rfl hl.1 rfl (Nat.le_of_ble_eq_true rfl) ⟨Nat.zero_le _, Nat.zero_le _⟩ dX8_run_108 ?_
            have r8 := en_r hR a.toNat
            refine z_top (show enO (tu (tu (tu τ 2 ((20 * a.toNat) + ((τ 1 a.toNat).toNat)) u) 3 ((20 * a.toNat) + ((τ 1 a.toNat).toNat)) v) 1 a.toNat ((τ 1 a.toNat) + 1)) a.toNat = enO τ a.toNat + u from en_tu hI) ?_
            exact m_iret hx hb hr hlocks (by unfold stRun; rw [if_pos (by refine ⟨?_, ?_, ?_, ?_⟩ <;> first | omega | assumption)]; exact hW.ext (fun c hc => tu_27 c hc)) hS hz (by unfold spRun; repeat (first | rw [if_pos (by first | assumption | omega)] | rw [if_neg (by first | assumption | omega | (intro hk; exact hk (by assumption)))])) dX8_run_111
          · refine z_bipush hx hb dX8_run_59 (by decide) ?_
            exact m_iret hx hb hr hlocks (by unfold stRun; rw [if_neg (fun hk => by first | omega | exact hk.1 (by assumption) | exact hk.2.1 (by assumption) | exact hk.2.2.1 (by assumption) | exact hk.2.2.2.1 (by assumption) | exact hk.2.2.2 (by assumption) | exact hk.2.2.2.2 (by assumption))]; exact hW) hS hz (by unfold spRun; repeat (first | rw [if_pos (by first | assumption | omega)] | rw [if_neg (by first | assumption | omega | (intro hk; exact hk (by assumption)))])) dX8_run_61
        · refine z_bipush hx hb dX8_run_45 (by decide) ?_
          exact m_iret hx hb hr hlocks (by unfold stRun; rw [if_neg (fun hk => by first | omega | exact hk.1 (by assumption) | exact hk.2.1 (by assumption) | exact hk.2.2.1 (by assumption) | exact hk.2.2.2.1 (by assumption) | exact hk.2.2.2 (by assumption) | exact hk.2.2.2.2 (by assumption))]; exact hW) hS hz (by unfold spRun; repeat (first | rw [if_pos (by first | assumption | omega)] | rw [if_neg (by first | assumption | omega | (intro hk; exact hk (by assumption)))])) dX8_run_47
      · refine z_bipush hx hb dX8_run_34 (by decide) ?_
        exact m_iret hx hb hr hlocks (by unfold stRun; rw [if_neg (fun hk => by first | omega | exact hk.1 (by assumption) | exact hk.2.1 (by assumption) | exact hk.2.2.1 (by assumption) | exact hk.2.2.2.1 (by assumption) | exact hk.2.2.2 (by assumption) | exact hk.2.2.2.2 (by assumption))]; exact hW) hS hz (by unfold spRun; repeat (first | rw [if_pos (by first | assumption | omega)] | rw [if_neg (by first | assumption | omega | (intro hk; exact hk (by assumption)))])) dX8_run_36
  · refine z_bipush hx hb dX8_run_8 (by decide) ?_
    exact m_iret hx hb hr hlocks (by unfold stRun; rw [if_neg (fun hk => by first | omega | exact hk.1 (by assumption) | exact hk.2.1 (by assumption) | exact hk.2.2.1 (by assumption) | exact hk.2.2.2.1 (by assumption) | exact hk.2.2.2 (by assumption) | exact hk.2.2.2.2 (by assumption))]; exact hW) hS hz (by unfold spRun; repeat (first | rw [if_pos (by first | assumption | omega)] | rw [if_neg (by first | assumption | omega | (intro hk; exact hk (by assumption)))])) dX8_run_10
set_option maxHeartbeats 4000000 in
set_option maxRecDepth 100000 in
theorem c8_recoveredOf (l : Launch) (D : va_G) (cI cZ : ClassId) (ad : Nat → Nat) (τ : Tau) (hI : Rng τ) (h : Nat) (zh : Int) (hzh : zh = (h : Int)) (a : Int) (h_a : I32 a) (b : Int) (h_b : I32 b) (h0 : h < 4) (hs : 0 ≤ a ∧ a < b ∧ b ≤ 20000) : Met l yX8_recoveredOf wsX8_recoveredOf { frames := 1, cells := 0, slots := 0, locals := 25 } (mPc D cI cZ ad τ [.ref (ad 0), .int (iI zh), .int (iI (a)), .int (iI (b))]) (rS (rcO τ h a b)) 0 0 NoA := by
  subst hzh
  refine m_start (by decide) rfl (Nat.le_of_ble_eq_true rfl) ?_
  intro p e s m below meth c hx hb hr hlocks hml hts hown hW hK ls hl
  have hin8 : ∀ w ∈ wsX80, w ∈ wsX8_recoveredOf := by decide +kernel
  have hl : lv_has ls 7 [(0, .ref (ad 0)), (1, .int (iI ((h : Int)))), (2, .int (iI (a))), (3, .int (iI (b)))] := hl
  obtain ⟨N, hN⟩ : ∃ N : Nat, τ 1 h = N := ⟨(τ 1 h).toNat, by have : (0 : Int) ≤ τ 1 h ∧ τ 1 h ≤ 20 := hI 1 h; omega⟩
  have hN2 : (τ 1 h).toNat = N := by omega
  have hN3 : N ≤ 20 := by have : (0 : Int) ≤ τ 1 h ∧ τ 1 h ≤ 20 := hI 1 h; omega
  refine z_iconst hx hb dX8_recoveredOf_0 ?_
  refine lv_istore (lv' := [(4, .int (iI (0))), (0, .ref (ad 0)), (1, .int (iI ((h : Int)))), (2, .int (iI (a))), (3, .int (iI (b)))]) hx hb dX8_recoveredOf_1 hl (by decide) rfl (fun ls hl => ?_)
  refine z_iconst hx hb dX8_recoveredOf_3 ?_
  refine lv_istore (lv' := [(5, .int (iI (0))), (4, .int (iI (0))), (0, .ref (ad 0)), (1, .int (iI ((h : Int)))), (2, .int (iI (a))), (3, .int (iI (b)))]) hx hb dX8_recoveredOf_4 hl (by decide) rfl (fun ls hl => ?_)
  refine z_iconst hx hb dX8_recoveredOf_6 ?_
  refine lv_istore (lv' := [(6, .int (iI (0))), (5, .int (iI (0))), (4, .int (iI (0))), (0, .ref (ad 0)), (1, .int (iI ((h : Int)))), (2, .int (iI (a))), (3, .int (iI (b)))]) hx hb dX8_recoveredOf_7 hl (by decide) rfl (fun ls hl => ?_)
  have lp9 : ∀ (n9 k : Nat) (x4 x5 x6 : Int), x4 = rcK τ h a b k → x5 = doK τ h k → x6 = (k : Int) → k ≤ N → N + 1 ≤ k + n9 → ∀ ls : Array Slot, lv_has ls 7 [(4, .int (iI (x4))), (5, .int (iI (x5))), (6, .int (iI (x6))), (0, .ref (ad 0)), (1, .int (iI ((h : Int)))), (2, .int (iI (a))), (3, .int (iI (b)))] → W p l e { frames := 1, cells := 0, slots := 0, locals := 25 } s m [.ref (ad 0), .int (iI ((h : Int))), .int (iI (a)), .int (iI (b))].toArray below meth c s.heap [] 0 0 (MQ below (rS (rcO τ h a b)) [.ref (ad 0), .int (iI ((h : Int))), .int (iI (a)), .int (iI (b))].toArray s 0 0 (NoA)) (F0 m 9 ls []) := by
    intro n9
    induction n9 with
    | zero => intro k x4 x5 x6 ex4 ex5 ex6 hk1 hk2; exact absurd hk2 (by omega)
    | succ n9 ih9 =>
      intro k x4 x5 x6 ex4 ex5 ex6 hk1 hk2  ls hl
      subst ex4
      subst ex5
      subst ex6
      have hdo := do_r hI h k (by omega)
      refine lv_iload hx hb dX8_recoveredOf_9 (lv_at hl 2 rfl) ?_
      refine lv_aload_n hx hb dX8_recoveredOf_11 rfl (lv_at hl 3 rfl) ?_
      refine m_get hx hb hts hin8 hown hK hW 1 (by decide) (hts _ (by decide +kernel)) (v := .ref (ad 1)) rfl dX8_recoveredOf_12 ?_
      refine lv_iload_n hx hb dX8_recoveredOf_15 rfl (lv_at hl 4 rfl) ?_
      refine m_ald (d := 1) (j := h) hx hb hK hW rfl (by omega) (show h < 4 from by omega) dX8_recoveredOf_16 ?_
      have r1 : (0 : Int) ≤ τ 1 h ∧ τ 1 h ≤ 20 := hI 1 h
      refine z_icmp_ge (tgt := 70) hx hb (by omega) (by omega) dX8_recoveredOf_17 (by decide) (fun c2 => ?_) (fun c2 => ?_)
      · refine lv_iload hx hb dX8_recoveredOf_70 (lv_at hl 0 rfl) ?_
        exact s_iret hx hb hr hlocks (by unfold rcO; rw [hN2, show N = k by omega]) dX8_recoveredOf_72
      · refine lv_iload hx hb dX8_recoveredOf_20 (lv_at hl 0 rfl) ?_
        refine lv_iload_n hx hb dX8_recoveredOf_22 rfl (lv_at hl 5 rfl) ?_
        refine lv_iload_n hx hb dX8_recoveredOf_23 rfl (lv_at hl 6 rfl) ?_
        refine lv_iload hx hb dX8_recoveredOf_24 (lv_at hl 1 rfl) ?_
        refine lv_iload hx hb dX8_recoveredOf_26 (lv_at hl 1 rfl) ?_
        refine lv_aload_n hx hb dX8_recoveredOf_28 rfl (lv_at hl 3 rfl) ?_
        refine m_get hx hb hts hin8 hown hK hW 3 (by decide) (hts _ (by decide +kernel)) (v := .ref (ad 3)) rfl dX8_recoveredOf_29 ?_
        refine z_bipush hx hb dX8_recoveredOf_32 (by decide) ?_
        refine lv_iload_n hx hb dX8_recoveredOf_34 rfl (lv_at hl 4 rfl) ?_
        refine z_imul hx hb dX8_recoveredOf_35 ?_
        refine lv_iload hx hb dX8_recoveredOf_36 (lv_at hl 2 rfl) ?_
        refine z_iadd hx hb dX8_recoveredOf_38 ?_
        refine m_ald (d := 3) (j := (20 * h) + k) hx hb hK hW rfl (by omega) (show (20 * h) + k < 80 from by omega) dX8_recoveredOf_39 ?_
        have r3 : (0 : Int) ≤ τ 3 ((20 * h) + k) ∧ τ 3 ((20 * h) + k) ≤ 1000 := hI 3 ((20 * h) + k)
        refine z_iadd hx hb dX8_recoveredOf_40 ?_
        refine s_call (n := 4) (As := [.int (iI (a)), .int (iI (b)), .int (iI (doK τ h k)), .int (iI ((doK τ h k) + (τ 3 ((20 * h) + k))))]) (rest := [.int (iI (rcK τ h a b k))]) hx hb hml hts hown (c8_common l a (by omega) b (by omega) (doK τ h k) (by omega) ((doK τ h k) + (τ 3 ((20 * h) + k))) (by omega) (by omega)) gX8_recoveredOf_X8_common rfl rfl rfl (by decide +kernel) ⟨by decide, by decide⟩ rfl hl.1 rfl (Nat.le_of_ble_eq_true rfl) ⟨Nat.zero_le _, Nat.zero_le _⟩ dX8_recoveredOf_41 ?_
        refine z_iadd hx hb dX8_recoveredOf_44 ?_
        refine lv_istore (lv' := [(4, .int (iI ((rcK τ h a b k) + (cm a b (doK τ h k) ((doK τ h k) + (τ 3 ((20 * h) + k))))))), (5, .int (iI (doK τ h k))), (6, .int (iI ((k : Int)))), (0, .ref (ad 0)), (1, .int (iI ((h : Int)))), (2, .int (iI (a))), (3, .int (iI (b)))]) hx hb dX8_recoveredOf_45 hl (by decide) rfl (fun ls hl => ?_)
        refine lv_iload hx hb dX8_recoveredOf_47 (lv_at hl 1 rfl) ?_
        refine lv_aload_n hx hb dX8_recoveredOf_49 rfl (lv_at hl 3 rfl) ?_
        refine m_get hx hb hts hin8 hown hK hW 2 (by decide) (hts _ (by decide +kernel)) (v := .ref (ad 2)) rfl dX8_recoveredOf_50 ?_
        refine z_bipush hx hb dX8_recoveredOf_53 (by decide) ?_
        refine lv_iload_n hx hb dX8_recoveredOf_55 rfl (lv_at hl 4 rfl) ?_
        refine z_imul hx hb dX8_recoveredOf_56 ?_
        refine lv_iload hx hb dX8_recoveredOf_57 (lv_at hl 2 rfl) ?_
        refine z_iadd hx hb dX8_recoveredOf_59 ?_
        refine m_ald (d := 2) (j := (20 * h) + k) hx hb hK hW rfl (by omega) (show (20 * h) + k < 80 from by omega) dX8_recoveredOf_60 ?_
        have r4 : (0 : Int) ≤ τ 2 ((20 * h) + k) ∧ τ 2 ((20 * h) + k) ≤ 1000 := hI 2 ((20 * h) + k)
        refine z_iadd hx hb dX8_recoveredOf_61 ?_
        refine lv_istore (lv' := [(5, .int (iI ((doK τ h k) + (τ 2 ((20 * h) + k))))), (4, .int (iI ((rcK τ h a b k) + (cm a b (doK τ h k) ((doK τ h k) + (τ 3 ((20 * h) + k))))))), (6, .int (iI ((k : Int)))), (0, .ref (ad 0)), (1, .int (iI ((h : Int)))), (2, .int (iI (a))), (3, .int (iI (b)))]) hx hb dX8_recoveredOf_62 hl (by decide) rfl (fun ls hl => ?_)
        refine z_iinc (k := 2) (lv' := [(6, .int (iI ((k : Int) + 1))), (5, .int (iI ((doK τ h k) + (τ 2 ((20 * h) + k))))), (4, .int (iI ((rcK τ h a b k) + (cm a b (doK τ h k) ((doK τ h k) + (τ 3 ((20 * h) + k))))))), (0, .ref (ad 0)), (1, .int (iI ((h : Int)))), (2, .int (iI (a))), (3, .int (iI (b)))]) hx hb dX8_recoveredOf_64 hl rfl (by decide) rfl (fun ls hl => ?_)
        refine lv_goto (tgt := 9) hx hb dX8_recoveredOf_67 (by decide) ?_
        exact ih9 (k + 1) ((rcK τ h a b k) + (cm a b (doK τ h k) ((doK τ h k) + (τ 3 ((20 * h) + k))))) ((doK τ h k) + (τ 2 ((20 * h) + k))) ((k : Int) + 1) rfl rfl (by omega) (by omega) (by omega)  ls (lv_sub hl [2, 1, 0, 3, 4, 5, 6] rfl)
  exact lp9 (N + 1) 0 0 0 0 rfl rfl (by omega) (by omega) (by omega)  ls (lv_sub hl [2, 1, 0, 3, 4, 5, 6] rfl)
set_option maxHeartbeats 4000000 in
set_option maxRecDepth 100000 in
theorem c8_recovered (l : Launch) (D : va_G) (cI cZ : ClassId) (ad : Nat → Nat) (τ : Tau) (hI : Rng τ) (x : Int) (h_x : I32 x) (a : Int) (h_a : I32 a) (b : Int) (h_b : I32 b)  : Met l yX8_recovered wsX8_recovered { frames := 2, cells := 0, slots := 0, locals := 51 } (mPc D cI cZ ad τ [.ref (ad 0), .int (iI (x)), .int (iI (a)), .int (iI (b))]) (rS (spRec τ x a b)) 0 0 NoA := by
  refine m_start (by decide) rfl (Nat.le_of_ble_eq_true rfl) ?_
  intro p e s m below meth c hx hb hr hlocks hml hts hown hW hK ls hl
  have hin8 : ∀ w ∈ wsX80, w ∈ wsX8_recovered := by decide +kernel
  have hl : lv_has ls 4 [(0, .ref (ad 0)), (1, .int (iI (x))), (2, .int (iI (a))), (3, .int (iI (b)))] := hl
  refine lv_aload_n hx hb dX8_recovered_0 rfl (lv_at hl 0 rfl) ?_
  refine lv_iload_n hx hb dX8_recovered_1 rfl (lv_at hl 1 rfl) ?_
  refine m_call (n := 1) (As := [.int (iI (x))]) (rest := []) hx hb hml hts hown hK hW (c8_isHole l D cI cZ ad τ hI x (by omega)) gX8_recovered_X8_isHole rfl rfl rfl (by decide +kernel) ⟨by decide, by decide⟩ rfl hl.1 rfl (Nat.le_of_ble_eq_true rfl) ⟨Nat.zero_le _, Nat.zero_le _⟩ dX8_recovered_2 ?_
  have r1 := (show (0 : Int) ≤ τ 0 0 ∧ τ 0 0 ≤ 4 from hI 0 0)
  refine z_if_neB (tgt := 11) hx hb dX8_recovered_5 (by decide) (fun c2 => ?_) (fun c2 => ?_)
  · refine lv_aload_n hx hb dX8_recovered_11 rfl (lv_at hl 0 rfl) ?_
    refine lv_iload_n hx hb dX8_recovered_12 rfl (lv_at hl 1 rfl) ?_
    refine lv_iload_n hx hb dX8_recovered_13 rfl (lv_at hl 2 rfl) ?_
    refine lv_iload_n hx hb dX8_recovered_14 rfl (lv_at hl 3 rfl) ?_
    refine m_call (n := 3) (As := [.int (iI (x)), .int (iI (a)), .int (iI (b))]) (rest := []) hx hb hml hts hown hK hW (c8_isStretch l D cI cZ ad τ hI x.toNat x (by omega) a (by omega) b (by omega) (by omega)) gX8_recovered_X8_isStretch rfl rfl rfl (by decide +kernel) ⟨by decide, by decide⟩ rfl hl.1 rfl (Nat.le_of_ble_eq_true rfl) ⟨Nat.zero_le _, Nat.zero_le _⟩ dX8_recovered_15 ?_
    have r3 := en_r hI x.toNat
    refine z_if_eqB (tgt := 31) hx hb dX8_recovered_18 (by decide) (fun c4 => ?_) (fun c4 => ?_)
    · refine z_bipush hx hb dX8_recovered_31 (by decide) ?_
      exact s_iret hx hb hr hlocks (by unfold spRec; repeat (first | rw [if_pos (by first | assumption | omega)] | rw [if_neg (by first | assumption | omega | (intro hk; exact hk (by assumption)))])) dX8_recovered_33
    · refine lv_aload_n hx hb dX8_recovered_21 rfl (lv_at hl 0 rfl) ?_
      refine lv_iload_n hx hb dX8_recovered_22 rfl (lv_at hl 1 rfl) ?_
      refine lv_iload_n hx hb dX8_recovered_23 rfl (lv_at hl 2 rfl) ?_
      refine lv_iload_n hx hb dX8_recovered_24 rfl (lv_at hl 3 rfl) ?_
      refine m_call (n := 3) (As := [.int (iI (x)), .int (iI (a)), .int (iI (b))]) (rest := []) hx hb hml hts hown hK hW (c8_recoveredOf l D cI cZ ad τ hI x.toNat x (by omega) a (by omega) b (by omega) (by omega) (by omega)) gX8_recovered_X8_recoveredOf rfl rfl rfl (by decide +kernel) ⟨by decide, by decide⟩ rfl hl.1 rfl (Nat.le_of_ble_eq_true rfl) ⟨Nat.zero_le _, Nat.zero_le _⟩ dX8_recovered_25 ?_
      have r5 := rc_r hI x.toNat a b
      refine lv_goto (tgt := 33) hx hb dX8_recovered_28 (by decide) ?_
      exact s_iret hx hb hr hlocks (by unfold spRec; repeat (first | rw [if_pos (by first | assumption | omega)] | rw [if_neg (by first | assumption | omega | (intro hk; exact hk (by assumption)))])) dX8_recovered_33
  · refine z_bipush hx hb dX8_recovered_8 (by decide) ?_
    exact s_iret hx hb hr hlocks (by unfold spRec; repeat (first | rw [if_pos (by first | assumption | omega)] | rw [if_neg (by first | assumption | omega | (intro hk; exact hk (by assumption)))])) dX8_recovered_10
set_option maxHeartbeats 4000000 in
set_option maxRecDepth 100000 in
theorem c8_mark (l : Launch) (D : va_G) (cI cZ : ClassId) (ad : Nat → Nat) (τ : Tau) (hI : Rng τ) (a : Int) (h_a : I32 a) (u : Int) (h_u : I32 u)  : Met l yX8_mark wsX8_mark { frames := 2, cells := 0, slots := 0, locals := 46 } (mPc D cI cZ ad τ [.ref (ad 0), .int (iI (a)), .int (iI (u))]) (mQ D cI cZ ad (some (.int (iI (spMark τ a u)))) (stMark τ a u)) 0 0 (MA ad) := by
  refine m_start (by decide) rfl (Nat.le_of_ble_eq_true rfl) ?_
  intro p e s m below meth c hx hb hr hlocks hml hts hown hW hK ls hl
  have hin8 : ∀ w ∈ wsX80, w ∈ wsX8_mark := by decide +kernel
  have hS : va_S (MA ad) s.heap s.heap [] := va_S.rf
  have hz : s.heap.size = s.heap.size := rfl
  have hR : Rng τ := hI
  have hl : lv_has ls 3 [(0, .ref (ad 0)), (1, .int (iI (a))), (2, .int (iI (u)))] := hl
  refine lv_aload_n hx hb dX8_mark_0 rfl (lv_at hl 0 rfl) ?_
  refine lv_iload_n hx hb dX8_mark_1 rfl (lv_at hl 1 rfl) ?_
  refine m_call (n := 1) (As := [.int (iI (a))]) (rest := []) hx hb hml hts hown hK hW (c8_isHole l D cI cZ ad τ hI a (by omega)) gX8_mark_X8_isHole rfl rfl rfl (by decide +kernel) ⟨by decide, by decide⟩ rfl hl.1 rfl (Nat.le_of_ble_eq_true rfl) ⟨Nat.zero_le _, Nat.zero_le _⟩ dX8_mark_2 ?_
  have r1 := (show (0 : Int) ≤ τ 0 0 ∧ τ 0 0 ≤ 4 from hI 0 0)
  refine z_if_neB (tgt := 11) hx hb dX8_mark_5 (by decide) (fun c2 => ?_) (fun c2 => ?_)
  · refine lv_iload_n hx hb dX8_mark_11 rfl (lv_at hl 2 rfl) ?_
    refine z_i2l hx hb (by omega) dX8_mark_12 ?_
    refine z_lconst (n := 0) hx hb (by decide) dX8_mark_13 ?_
    refine z_ldc2 (n := 100000) hx hb hown (hts (.constantLong RX8 116 (100000)) (by decide +kernel)) (by decide) dX8_mark_14 ?_
    refine s_call (n := 3) (As := [.long (lL (u)), .long (lL (0)), .long (lL (100000))]) (rest := []) hx hb hml hts hown (c8_in l u (by omega) 0 (by omega) 100000 (by omega)) gX8_mark_X8_in rfl rfl rfl (by decide +kernel) ⟨by decide, by decide⟩ rfl hl.1 rfl (Nat.le_of_ble_eq_true rfl) ⟨Nat.zero_le _, Nat.zero_le _⟩ dX8_mark_17 ?_
    refine z_if_neB (tgt := 26) hx hb dX8_mark_20 (by decide) (fun c3 => ?_) (fun c3 => ?_)
    · refine lv_aload_n hx hb dX8_mark_26 rfl (lv_at hl 0 rfl) ?_
      refine m_get hx hb hts hin8 hown hK hW 4 (by decide) (hts _ (by decide +kernel)) (v := .ref (ad 4)) rfl dX8_mark_27 ?_
      refine lv_iload_n hx hb dX8_mark_30 rfl (lv_at hl 1 rfl) ?_
      refine m_ald (d := 4) (j := a.toNat) hx hb hK hW rfl (by omega) (show a.toNat < 4 from by omega) dX8_mark_31 ?_
      have r4 : (0 : Int) ≤ τ 4 a.toNat ∧ τ 4 a.toNat ≤ 20 := hI 4 a.toNat
      refine z_bipush hx hb dX8_mark_32 (by decide) ?_
      refine z_icmp_ne (tgt := 40) hx hb (by omega) (by omega) dX8_mark_34 (by decide) (fun c5 => ?_) (fun c5 => ?_)
      · refine lv_aload_n hx hb dX8_mark_40 rfl (lv_at hl 0 rfl) ?_
        refine m_get hx hb hts hin8 hown hK hW 5 (by decide) (hts _ (by decide +kernel)) (v := .ref (ad 5)) rfl dX8_mark_41 ?_
        refine z_bipush hx hb dX8_mark_44 (by decide) ?_
        refine lv_iload_n hx hb dX8_mark_46 rfl (lv_at hl 1 rfl) ?_
        refine z_imul hx hb dX8_mark_47 ?_
        refine lv_aload_n hx hb dX8_mark_48 rfl (lv_at hl 0 rfl) ?_
        refine m_get hx hb hts hin8 hown hK hW 4 (by decide) (hts _ (by decide +kernel)) (v := .ref (ad 4)) rfl dX8_mark_49 ?_
        refine lv_iload_n hx hb dX8_mark_52 rfl (lv_at hl 1 rfl) ?_
        refine m_ald (d := 4) (j := a.toNat) hx hb hK hW rfl (by omega) (show a.toNat < 4 from by omega) dX8_mark_53 ?_
        refine z_iadd hx hb dX8_mark_54 ?_
        refine lv_iload_n hx hb dX8_mark_55 rfl (lv_at hl 2 rfl) ?_
        refine m_ast (d := 5) (j := (20 * a.toNat) + ((τ 4 a.toNat).toNat)) (v := u) hx hb hK hW hS hz rfl (by omega) (show (20 * a.toNat) + ((τ 4 a.toNat).toNat) < 80 from by omega) dX8_mark_56 (fun H locs hW hS hz => ?_)
        have hR := Rng.tu (c := 5) (i := (20 * a.toNat) + ((τ 4 a.toNat).toNat)) (v := u) hR (show (0 : Int) ≤ u from by omega) (show u ≤ 100000 from by omega)
        refine lv_aload_n hx hb dX8_mark_57 rfl (lv_at hl 0 rfl) ?_
        refine m_get hx hb hts hin8 hown hK hW 4 (by decide) (hts _ (by decide +kernel)) (v := .ref (ad 4)) rfl dX8_mark_58 ?_
        refine lv_iload_n hx hb dX8_mark_61 rfl (lv_at hl 1 rfl) ?_
        refine lv_dup2_11 hx hb dX8_mark_62 rfl rfl ?_
        refine m_ald (d := 4) (j := a.toNat) hx hb hK hW rfl (by omega) (show a.toNat < 4 from by omega) dX8_mark_63 ?_
        refine z_top (show (tu τ 5 ((20 * a.toNat) + ((τ 4 a.toNat).toNat)) u) 4 a.toNat = τ 4 a.toNat from by rw [tu_n (show 4 ≠ 5 by decide)]) ?_
        refine z_iconst hx hb dX8_mark_64 ?_
        refine z_iadd hx hb dX8_mark_65 ?_
        refine m_ast (d := 4) (j := a.toNat) (v := (τ 4 a.toNat) + 1) hx hb hK hW hS hz rfl (by omega) (show a.toNat < 4 from by omega) dX8_mark_66 (fun H locs hW hS hz => ?_)
        have hR := Rng.tu (c := 4) (i := a.toNat) (v := (τ 4 a.toNat) + 1) hR (show (0 : Int) ≤ (τ 4 a.toNat) + 1 from by omega) (show (τ 4 a.toNat) + 1 ≤ 20 from by omega)
        refine lv_aload_n hx hb dX8_mark_67 rfl (lv_at hl 0 rfl) ?_
        refine m_get hx hb hts hin8 hown hK hW 4 (by decide) (hts _ (by decide +kernel)) (v := .ref (ad 4)) rfl dX8_mark_68 ?_
        refine lv_iload_n hx hb dX8_mark_71 rfl (lv_at hl 1 rfl) ?_
        refine m_ald (d := 4) (j := a.toNat) hx hb hK hW rfl (by omega) (show a.toNat < 4 from by omega) dX8_mark_72 ?_
        refine z_top (show (tu (tu τ 5 ((20 * a.toNat) + ((τ 4 a.toNat).toNat)) u) 4 a.toNat ((τ 4 a.toNat) + 1)) 4 a.toNat = (τ 4 a.toNat) + 1 from by rw [tu_s]) ?_
        exact m_iret hx hb hr hlocks (by unfold stMark; rw [if_pos (by refine ⟨?_, ?_, ?_⟩ <;> first | omega | assumption)]; exact hW) hS hz (by unfold spMark; repeat (first | rw [if_pos (by first | assumption | omega)] | rw [if_neg (by first | assumption | omega | (intro hk; exact hk (by assumption)))])) dX8_mark_73
      · refine z_bipush hx hb dX8_mark_37 (by decide) ?_
        exact m_iret hx hb hr hlocks (by unfold stMark; rw [if_neg (fun hk => by first | omega | exact hk.1 (by assumption) | exact hk.2.1 (by assumption) | exact hk.2.2.1 (by assumption) | exact hk.2.2.2.1 (by assumption) | exact hk.2.2.2 (by assumption) | exact hk.2.2.2.2 (by assumption))]; exact hW) hS hz (by unfold spMark; repeat (first | rw [if_pos (by first | assumption | omega)] | rw [if_neg (by first | assumption | omega | (intro hk; exact hk (by assumption)))])) dX8_mark_39
    · refine z_bipush hx hb dX8_mark_23 (by decide) ?_
      exact m_iret hx hb hr hlocks (by unfold stMark; rw [if_neg (fun hk => by first | omega | exact hk.1 (by assumption) | exact hk.2.1 (by assumption) | exact hk.2.2.1 (by assumption) | exact hk.2.2.2.1 (by assumption) | exact hk.2.2.2 (by assumption) | exact hk.2.2.2.2 (by assumption))]; exact hW) hS hz (by unfold spMark; repeat (first | rw [if_pos (by first | assumption | omega)] | rw [if_neg (by first | assumption | omega | (intro hk; exact hk (by assumption)))])) dX8_mark_25
  · refine z_bipush hx hb dX8_mark_8 (by decide) ?_
    exact m_iret hx hb hr hlocks (by unfold stMark; rw [if_neg (fun hk => by first | omega | exact hk.1 (by assumption) | exact hk.2.1 (by assumption) | exact hk.2.2.1 (by assumption) | exact hk.2.2.2.1 (by assumption) | exact hk.2.2.2 (by assumption) | exact hk.2.2.2.2 (by assumption))]; exact hW) hS hz (by unfold spMark; repeat (first | rw [if_pos (by first | assumption | omega)] | rw [if_neg (by first | assumption | omega | (intro hk; exact hk (by assumption)))])) dX8_mark_10
set_option maxHeartbeats 4000000 in
set_option maxRecDepth 100000 in
theorem c8_isLog (l : Launch) (a : Int) (h_a : I32 a)  : Met l yX8_isLog wsX8_isLog { frames := 1, cells := 0, slots := 0, locals := 25 } (sPc [.int (iI (a))]) (rS (bI (0 ≤ a ∧ a ≤ 1))) 0 0 NoA := by
  refine s_start (by decide) rfl (Nat.le_of_ble_eq_true rfl) ?_
  intro p e s m below meth c hx hb hr hlocks hml hts hown ls hl
  have hl : lv_has ls 1 [(0, .int (iI (a)))] := hl
  refine lv_iload_n hx hb dX8_isLog_0 rfl (lv_at hl 0 rfl) ?_
  refine z_i2l hx hb (by omega) dX8_isLog_1 ?_
  refine z_lconst (n := 0) hx hb (by decide) dX8_isLog_2 ?_
  refine z_lconst (n := 1) hx hb (by decide) dX8_isLog_3 ?_
  refine s_call (n := 3) (As := [.long (lL (a)), .long (lL (0)), .long (lL (1))]) (rest := []) hx hb hml hts hown (c8_in l a (by omega) 0 (by omega) 1 (by omega)) gX8_isLog_X8_in rfl rfl rfl (by decide +kernel) ⟨by decide, by decide⟩ rfl hl.1 rfl (Nat.le_of_ble_eq_true rfl) ⟨Nat.zero_le _, Nat.zero_le _⟩ dX8_isLog_4 ?_
  exact s_zret hx hb hr hlocks (bI_c (by omega)) dX8_isLog_7
set_option maxHeartbeats 4000000 in
set_option maxRecDepth 100000 in
theorem c8_codeOf (l : Launch) (D : va_G) (cI cZ : ClassId) (ad : Nat → Nat) (τ : Tau) (hI : Rng τ) (g : Nat) (zg : Int) (hzg : zg = (g : Int)) (k : Nat) (zk : Int) (hzk : zk = (k : Int)) (h0 : g < 8) (h1 : k < 20) : Met l yX8_codeOf wsX8_codeOf { frames := 0, cells := 0, slots := 0, locals := 0 } (mPc D cI cZ ad τ [.ref (ad 0), .int (iI zg), .int (iI zk)]) (rS (cdO τ g k)) 0 0 NoA := by
  subst hzg
  subst hzk
  refine m_start (by decide) rfl (Nat.le_of_ble_eq_true rfl) ?_
  intro p e s m below meth c hx hb hr hlocks hml hts hown hW hK ls hl
  have hin8 : ∀ w ∈ wsX80, w ∈ wsX8_codeOf := by decide +kernel
  have hl : lv_has ls 3 [(0, .ref (ad 0)), (1, .int (iI ((g : Int)))), (2, .int (iI ((k : Int))))] := hl
  refine lv_aload_n hx hb dX8_codeOf_0 rfl (lv_at hl 0 rfl) ?_
  refine m_get hx hb hts hin8 hown hK hW 11 (by decide) (hts _ (by decide +kernel)) (v := .ref (ad 11)) rfl dX8_codeOf_1 ?_
  refine lv_aload_n hx hb dX8_codeOf_4 rfl (lv_at hl 0 rfl) ?_
  refine m_get hx hb hts hin8 hown hK hW 10 (by decide) (hts _ (by decide +kernel)) (v := .ref (ad 10)) rfl dX8_codeOf_5 ?_
  refine z_bipush hx hb dX8_codeOf_8 (by decide) ?_
  refine lv_iload_n hx hb dX8_codeOf_10 rfl (lv_at hl 1 rfl) ?_
  refine z_imul hx hb dX8_codeOf_11 ?_
  refine lv_iload_n hx hb dX8_codeOf_12 rfl (lv_at hl 2 rfl) ?_
  refine z_iadd hx hb dX8_codeOf_13 ?_
  refine m_ald (d := 10) (j := (20 * g) + k) hx hb hK hW rfl (by omega) (show (20 * g) + k < 160 from by omega) dX8_codeOf_14 ?_
  have r1 : (0 : Int) ≤ τ 10 ((20 * g) + k) ∧ τ 10 ((20 * g) + k) ≤ 9 := hI 10 ((20 * g) + k)
  refine m_ald (d := 11) (j := (τ 10 ((20 * g) + k)).toNat) hx hb hK hW rfl (by omega) (show (τ 10 ((20 * g) + k)).toNat < 10 from by omega) dX8_codeOf_15 ?_
  have r2 : (0 : Int) ≤ τ 11 ((τ 10 ((20 * g) + k)).toNat) ∧ τ 11 ((τ 10 ((20 * g) + k)).toNat) ≤ 9 := hI 11 ((τ 10 ((20 * g) + k)).toNat)
  exact s_iret hx hb hr hlocks (rfl) dX8_codeOf_16
set_option maxHeartbeats 4000000 in
set_option maxRecDepth 100000 in
theorem c8_fromOf (l : Launch) (D : va_G) (cI cZ : ClassId) (ad : Nat → Nat) (τ : Tau) (hI : Rng τ) (g : Nat) (zg : Int) (hzg : zg = (g : Int)) (k : Nat) (zk : Int) (hzk : zk = (k : Int)) (h0 : g < 8) (h1 : k < 20) : Met l yX8_fromOf wsX8_fromOf { frames := 0, cells := 0, slots := 0, locals := 0 } (mPc D cI cZ ad τ [.ref (ad 0), .int (iI zg), .int (iI zk)]) (rS (frO τ g k)) 0 0 NoA := by
  subst hzg
  subst hzk
  refine m_start (by decide) rfl (Nat.le_of_ble_eq_true rfl) ?_
  intro p e s m below meth c hx hb hr hlocks hml hts hown hW hK ls hl
  have hin8 : ∀ w ∈ wsX80, w ∈ wsX8_fromOf := by decide +kernel
  have hl : lv_has ls 3 [(0, .ref (ad 0)), (1, .int (iI ((g : Int)))), (2, .int (iI ((k : Int))))] := hl
  refine lv_iload_n hx hb dX8_fromOf_0 rfl (lv_at hl 2 rfl) ?_
  refine z_if_ne (tgt := 8) hx hb (by omega) dX8_fromOf_1 (by decide) (fun c1 => ?_) (fun c1 => ?_)
  · refine lv_aload_n hx hb dX8_fromOf_8 rfl (lv_at hl 0 rfl) ?_
    refine m_get hx hb hts hin8 hown hK hW 9 (by decide) (hts _ (by decide +kernel)) (v := .ref (ad 9)) rfl dX8_fromOf_9 ?_
    refine z_bipush hx hb dX8_fromOf_12 (by decide) ?_
    refine lv_iload_n hx hb dX8_fromOf_14 rfl (lv_at hl 1 rfl) ?_
    refine z_imul hx hb dX8_fromOf_15 ?_
    refine lv_iload_n hx hb dX8_fromOf_16 rfl (lv_at hl 2 rfl) ?_
    refine z_iadd hx hb dX8_fromOf_17 ?_
    refine z_iconst hx hb dX8_fromOf_18 ?_
    refine z_isub hx hb dX8_fromOf_19 ?_
    refine m_ald (d := 9) (j := 20 * g + (k - 1)) hx hb hK hW rfl (by omega) (show 20 * g + (k - 1) < 160 from by omega) dX8_fromOf_20 ?_
    have r2 : (0 : Int) ≤ τ 9 (20 * g + (k - 1)) ∧ τ 9 (20 * g + (k - 1)) ≤ 20000 := hI 9 (20 * g + (k - 1))
    exact s_iret hx hb hr hlocks (by unfold frO; (first | rw [if_pos (by omega)] | rw [if_neg (by omega)])) dX8_fromOf_21
  · refine z_iconst hx hb dX8_fromOf_4 ?_
    refine lv_goto (tgt := 21) hx hb dX8_fromOf_5 (by decide) ?_
    exact s_iret hx hb hr hlocks (by unfold frO; (first | rw [if_pos (by omega)] | rw [if_neg (by omega)])) dX8_fromOf_21
set_option maxHeartbeats 4000000 in
set_option maxRecDepth 100000 in
theorem c8_thick (l : Launch) (D : va_G) (cI cZ : ClassId) (ad : Nat → Nat) (τ : Tau) (hI : Rng τ) (g : Nat) (zg : Int) (hzg : zg = (g : Int)) (k : Nat) (zk : Int) (hzk : zk = (k : Int)) (h0 : g < 8) (h1 : k < 20) : Met l yX8_thick wsX8_thick { frames := 1, cells := 0, slots := 0, locals := 22 } (mPc D cI cZ ad τ [.ref (ad 0), .int (iI zg), .int (iI zk)]) (rS (thO τ g k)) 0 0 NoA := by
  subst hzg
  subst hzk
  refine m_start (by decide) rfl (Nat.le_of_ble_eq_true rfl) ?_
  intro p e s m below meth c hx hb hr hlocks hml hts hown hW hK ls hl
  have hin8 : ∀ w ∈ wsX80, w ∈ wsX8_thick := by decide +kernel
  have hl : lv_has ls 3 [(0, .ref (ad 0)), (1, .int (iI ((g : Int)))), (2, .int (iI ((k : Int))))] := hl
  refine lv_aload_n hx hb dX8_thick_0 rfl (lv_at hl 0 rfl) ?_
  refine m_get hx hb hts hin8 hown hK hW 9 (by decide) (hts _ (by decide +kernel)) (v := .ref (ad 9)) rfl dX8_thick_1 ?_
  refine z_bipush hx hb dX8_thick_4 (by decide) ?_
  refine lv_iload_n hx hb dX8_thick_6 rfl (lv_at hl 1 rfl) ?_
  refine z_imul hx hb dX8_thick_7 ?_
  refine lv_iload_n hx hb dX8_thick_8 rfl (lv_at hl 2 rfl) ?_
  refine z_iadd hx hb dX8_thick_9 ?_
  refine m_ald (d := 9) (j := (20 * g) + k) hx hb hK hW rfl (by omega) (show (20 * g) + k < 160 from by omega) dX8_thick_10 ?_
  have r1 : (0 : Int) ≤ τ 9 ((20 * g) + k) ∧ τ 9 ((20 * g) + k) ≤ 20000 := hI 9 ((20 * g) + k)
  refine lv_aload_n hx hb dX8_thick_11 rfl (lv_at hl 0 rfl) ?_
  refine lv_iload_n hx hb dX8_thick_12 rfl (lv_at hl 1 rfl) ?_
  refine lv_iload_n hx hb dX8_thick_13 rfl (lv_at hl 2 rfl) ?_
  refine m_call (n := 2) (As := [.int (iI ((g : Int))), .int (iI ((k : Int)))]) (rest := [.int (iI (τ 9 ((20 * g) + k)))]) hx hb hml hts hown hK hW (c8_fromOf l D cI cZ ad τ hI g (g : Int) (by omega) k (k : Int) (by omega) (by omega) (by omega)) gX8_thick_X8_fromOf rfl rfl rfl (by decide +kernel) ⟨by decide, by decide⟩ rfl hl.1 rfl (Nat.le_of_ble_eq_true rfl) ⟨Nat.zero_le _, Nat.zero_le _⟩ dX8_thick_14 ?_
  have r2 := fr_r hI g k
  refine z_isub hx hb dX8_thick_17 ?_
  exact s_iret hx hb hr hlocks (rfl) dX8_thick_18
set_option maxHeartbeats 4000000 in
set_option maxRecDepth 100000 in
theorem c8_code (l : Launch) (D : va_G) (cI cZ : ClassId) (ad : Nat → Nat) (τ : Tau) (hI : Rng τ) (a : Int) (h_a : I32 a) (u : Int) (h_u : I32 u)  : Met l yX8_code wsX8_code { frames := 1, cells := 0, slots := 0, locals := 25 } (mPc D cI cZ ad τ [.ref (ad 0), .int (iI (a)), .int (iI (u))]) (mQ D cI cZ ad (some (.int (iI (spCode τ a u)))) (stCode τ a u)) 0 0 (MA ad) := by
  refine m_start (by decide) rfl (Nat.le_of_ble_eq_true rfl) ?_
  intro p e s m below meth c hx hb hr hlocks hml hts hown hW hK ls hl
  have hin8 : ∀ w ∈ wsX80, w ∈ wsX8_code := by decide +kernel
  have hS : va_S (MA ad) s.heap s.heap [] := va_S.rf
  have hz : s.heap.size = s.heap.size := rfl
  have hR : Rng τ := hI
  have hl : lv_has ls 4 [(0, .ref (ad 0)), (1, .int (iI (a))), (2, .int (iI (u)))] := hl
  refine lv_iload_n hx hb dX8_code_0 rfl (lv_at hl 1 rfl) ?_
  refine z_i2l hx hb (by omega) dX8_code_1 ?_
  refine z_lconst (n := 0) hx hb (by decide) dX8_code_2 ?_
  refine z_ldc2 (n := 9) hx hb hown (hts (.constantLong RX8 124 (9)) (by decide +kernel)) (by decide) dX8_code_3 ?_
  refine s_call (n := 3) (As := [.long (lL (a)), .long (lL (0)), .long (lL (9))]) (rest := []) hx hb hml hts hown (c8_in l a (by omega) 0 (by omega) 9 (by omega)) gX8_code_X8_in rfl rfl rfl (by decide +kernel) ⟨by decide, by decide⟩ rfl hl.1 rfl (Nat.le_of_ble_eq_true rfl) ⟨Nat.zero_le _, Nat.zero_le _⟩ dX8_code_6 ?_
  refine z_if_neB (tgt := 15) hx hb dX8_code_9 (by decide) (fun c1 => ?_) (fun c1 => ?_)
  · refine lv_iload_n hx hb dX8_code_15 rfl (lv_at hl 2 rfl) ?_
    refine z_i2l hx hb (by omega) dX8_code_16 ?_
    refine z_lconst (n := 0) hx hb (by decide) dX8_code_17 ?_
    refine z_ldc2 (n := 9) hx hb hown (hts (.constantLong RX8 124 (9)) (by decide +kernel)) (by decide) dX8_code_18 ?_
    refine s_call (n := 3) (As := [.long (lL (u)), .long (lL (0)), .long (lL (9))]) (rest := []) hx hb hml hts hown (c8_in l u (by omega) 0 (by omega) 9 (by omega)) gX8_code_X8_in rfl rfl rfl (by decide +kernel) ⟨by decide, by decide⟩ rfl hl.1 rfl (Nat.le_of_ble_eq_true rfl) ⟨Nat.zero_le _, Nat.zero_le _⟩ dX8_code_21 ?_
    refine z_if_neB (tgt := 30) hx hb dX8_code_24 (by decide) (fun c2 => ?_) (fun c2 => ?_)
    · refine lv_aload_n hx hb dX8_code_30 rfl (lv_at hl 0 rfl) ?_
      refine m_get hx hb hts hin8 hown hK hW 11 (by decide) (hts _ (by decide +kernel)) (v := .ref (ad 11)) rfl dX8_code_31 ?_
      refine lv_iload_n hx hb dX8_code_34 rfl (lv_at hl 1 rfl) ?_
      refine m_ald (d := 11) (j := a.toNat) hx hb hK hW rfl (by omega) (show a.toNat < 10 from by omega) dX8_code_35 ?_
      have r3 : (0 : Int) ≤ τ 11 a.toNat ∧ τ 11 a.toNat ≤ 9 := hI 11 a.toNat
      refine lv_istore_n (lv' := [(3, .int (iI (τ 11 a.toNat))), (0, .ref (ad 0)), (1, .int (iI (a))), (2, .int (iI (u)))]) hx hb dX8_code_36 rfl hl (by decide) rfl (fun ls hl => ?_)
      refine lv_aload_n hx hb dX8_code_37 rfl (lv_at hl 1 rfl) ?_
      refine m_get hx hb hts hin8 hown hK hW 11 (by decide) (hts _ (by decide +kernel)) (v := .ref (ad 11)) rfl dX8_code_38 ?_
      refine lv_iload_n hx hb dX8_code_41 rfl (lv_at hl 2 rfl) ?_
      refine lv_iload_n hx hb dX8_code_42 rfl (lv_at hl 3 rfl) ?_
      refine m_ast (d := 11) (j := a.toNat) (v := u) hx hb hK hW hS hz rfl (by omega) (show a.toNat < 10 from by omega) dX8_code_43 (fun H locs hW hS hz => ?_)
      have hR := Rng.tu (c := 11) (i := a.toNat) (v := u) hR (show (0 : Int) ≤ u from by omega) (show u ≤ 9 from by omega)
      refine lv_iload_n hx hb dX8_code_44 rfl (lv_at hl 0 rfl) ?_
      exact m_iret hx hb hr hlocks (by unfold stCode; rw [if_pos (by refine ⟨?_, ?_⟩ <;> first | omega | assumption)]; exact hW) hS hz (by unfold spCode; repeat (first | rw [if_pos (by first | assumption | omega)] | rw [if_neg (by first | assumption | omega | (intro hk; exact hk (by assumption)))])) dX8_code_45
    · refine z_bipush hx hb dX8_code_27 (by decide) ?_
      exact m_iret hx hb hr hlocks (by unfold stCode; rw [if_neg (fun hk => by first | omega | exact hk.1 (by assumption) | exact hk.2.1 (by assumption) | exact hk.2.2.1 (by assumption) | exact hk.2.2.2.1 (by assumption) | exact hk.2.2.2 (by assumption) | exact hk.2.2.2.2 (by assumption))]; exact hW) hS hz (by unfold spCode; repeat (first | rw [if_pos (by first | assumption | omega)] | rw [if_neg (by first | assumption | omega | (intro hk; exact hk (by assumption)))])) dX8_code_29
  · refine z_bipush hx hb dX8_code_12 (by decide) ?_
    exact m_iret hx hb hr hlocks (by unfold stCode; rw [if_neg (fun hk => by first | omega | exact hk.1 (by assumption) | exact hk.2.1 (by assumption) | exact hk.2.2.1 (by assumption) | exact hk.2.2.2.1 (by assumption) | exact hk.2.2.2 (by assumption) | exact hk.2.2.2.2 (by assumption))]; exact hW) hS hz (by unfold spCode; repeat (first | rw [if_pos (by first | assumption | omega)] | rw [if_neg (by first | assumption | omega | (intro hk; exact hk (by assumption)))])) dX8_code_14
set_option maxHeartbeats 4000000 in
set_option maxRecDepth 100000 in
theorem c8_layer (l : Launch) (D : va_G) (cI cZ : ClassId) (ad : Nat → Nat) (τ : Tau) (hI : Rng τ) (a : Int) (h_a : I32 a) (b : Int) (h_b : I32 b) (u : Int) (h_u : I32 u) (v : Int) (h_v : I32 v)  : Met l yX8_layer wsX8_layer { frames := 2, cells := 0, slots := 0, locals := 46 } (mPc D cI cZ ad τ [.ref (ad 0), .int (iI (a)), .int (iI (b)), .int (iI (u)), .int (iI (v))]) (mQ D cI cZ ad (some (.int (iI (spLayer τ a b u v)))) (stLayer τ a b u v)) 0 0 (MA ad) := by
  refine m_start (by decide) rfl (Nat.le_of_ble_eq_true rfl) ?_
  intro p e s m below meth c hx hb hr hlocks hml hts hown hW hK ls hl
  have hin8 : ∀ w ∈ wsX80, w ∈ wsX8_layer := by decide +kernel
  have hS : va_S (MA ad) s.heap s.heap [] := va_S.rf
  have hz : s.heap.size = s.heap.size := rfl
  have hR : Rng τ := hI
  have hl : lv_has ls 7 [(0, .ref (ad 0)), (1, .int (iI (a))), (2, .int (iI (b))), (3, .int (iI (u))), (4, .int (iI (v)))] := hl
  refine lv_aload_n hx hb dX8_layer_0 rfl (lv_at hl 0 rfl) ?_
  refine lv_iload_n hx hb dX8_layer_1 rfl (lv_at hl 1 rfl) ?_
  refine m_call (n := 1) (As := [.int (iI (a))]) (rest := []) hx hb hml hts hown hK hW (c8_isHole l D cI cZ ad τ hI a (by omega)) gX8_layer_X8_isHole rfl rfl rfl (by decide +kernel) ⟨by decide, by decide⟩ rfl hl.1 rfl (Nat.le_of_ble_eq_true rfl) ⟨Nat.zero_le _, Nat.zero_le _⟩ dX8_layer_2 ?_
  have r1 := (show (0 : Int) ≤ τ 0 0 ∧ τ 0 0 ≤ 4 from hI 0 0)
  refine z_if_eqB (tgt := 15) hx hb dX8_layer_5 (by decide) (fun c2 => ?_) (fun c2 => ?_)
  · refine z_bipush hx hb dX8_layer_15 (by decide) ?_
    exact m_iret hx hb hr hlocks (by unfold stLayer; rw [if_neg (fun hk => by first | omega | exact hk.1 (by assumption) | exact hk.2.1 (by assumption) | exact hk.2.2.1 (by assumption) | exact hk.2.2.2.1 (by assumption) | exact hk.2.2.2 (by assumption) | exact hk.2.2.2.2 (by assumption))]; exact hW) hS hz (by unfold spLayer; repeat (first | rw [if_pos (by first | assumption | omega)] | rw [if_neg (by first | assumption | omega | (intro hk; exact hk (by assumption)))])) dX8_layer_17
  · refine lv_iload_n hx hb dX8_layer_8 rfl (lv_at hl 2 rfl) ?_
    refine s_call (n := 1) (As := [.int (iI (b))]) (rest := []) hx hb hml hts hown (c8_isLog l b (by omega)) gX8_layer_X8_isLog rfl rfl rfl (by decide +kernel) ⟨by decide, by decide⟩ rfl hl.1 rfl (Nat.le_of_ble_eq_true rfl) ⟨Nat.zero_le _, Nat.zero_le _⟩ dX8_layer_9 ?_
    refine z_if_neB (tgt := 18) hx hb dX8_layer_12 (by decide) (fun c3 => ?_) (fun c3 => ?_)
    · refine z_iconst hx hb dX8_layer_18 ?_
      refine lv_iload_n hx hb dX8_layer_19 rfl (lv_at hl 1 rfl) ?_
      refine z_imul hx hb dX8_layer_20 ?_
      refine lv_iload_n hx hb dX8_layer_21 rfl (lv_at hl 2 rfl) ?_
      refine z_iadd hx hb dX8_layer_22 ?_
      refine lv_istore (lv' := [(5, .int (iI ((2 * a) + b))), (0, .ref (ad 0)), (1, .int (iI (a))), (2, .int (iI (b))), (3, .int (iI (u))), (4, .int (iI (v)))]) hx hb dX8_layer_23 hl (by decide) rfl (fun ls hl => ?_)
      have jn59 : ∀ xj : Int, xj = frO τ (2 * a.toNat + b.toNat) (τ 8 (2 * a.toNat + b.toNat)).toNat → ∀ ls : Array Slot, lv_has ls 7 [(5, .int (iI ((2 * a) + b))), (0, .ref (ad 0)), (1, .int (iI (a))), (2, .int (iI (b))), (3, .int (iI (u))), (4, .int (iI (v)))] → W p l e { frames := 2, cells := 0, slots := 0, locals := 46 } s m [.ref (ad 0), .int (iI (a)), .int (iI (b)), .int (iI (u)), .int (iI (v))].toArray below meth c s.heap [] 0 0 (MQ below (mQ D cI cZ ad (some (.int (iI (spLayer τ a b u v)))) (stLayer τ a b u v)) [.ref (ad 0), .int (iI (a)), .int (iI (b)), .int (iI (u)), .int (iI (v))].toArray s 0 0 (MA ad)) (F0 m 59 ls (.int (iI xj) :: [])) := by
        intro xj ej ls hl
        subst ej
        refine lv_istore (lv' := [(6, .int (iI (frO τ (2 * a.toNat + b.toNat) (τ 8 (2 * a.toNat + b.toNat)).toNat))), (5, .int (iI ((2 * a) + b))), (0, .ref (ad 0)), (1, .int (iI (a))), (2, .int (iI (b))), (3, .int (iI (u))), (4, .int (iI (v)))]) hx hb dX8_layer_59 hl (by decide) rfl (fun ls hl => ?_)
        have hfr := fr_r hI (2 * a.toNat + b.toNat) (τ 8 (2 * a.toNat + b.toNat)).toNat
        refine lv_iload_n hx hb dX8_layer_61 rfl (lv_at hl 5 rfl) ?_
        refine lv_iload hx hb dX8_layer_62 (lv_at hl 0 rfl) ?_
        refine z_icmp_le (tgt := 89) hx hb (by omega) (by omega) dX8_layer_64 (by decide) (fun c4 => ?_) (fun c4 => ?_)
        · refine z_bipush hx hb dX8_layer_89 (by decide) ?_
          exact m_iret hx hb hr hlocks (by unfold stLayer; rw [if_neg (fun hk => by first | omega | exact hk.1 (by assumption) | exact hk.2.1 (by assumption) | exact hk.2.2.1 (by assumption) | exact hk.2.2.2.1 (by assumption) | exact hk.2.2.2 (by assumption) | exact hk.2.2.2.2 (by assumption))]; exact hW) hS hz (by unfold spLayer; repeat (first | rw [if_pos (by first | assumption | omega)] | rw [if_neg (by first | assumption | omega | (intro hk; exact hk (by assumption)))])) dX8_layer_91
        · refine lv_iload_n hx hb dX8_layer_67 rfl (lv_at hl 5 rfl) ?_
          refine lv_aload_n hx hb dX8_layer_68 rfl (lv_at hl 2 rfl) ?_
          refine lv_iload_n hx hb dX8_layer_69 rfl (lv_at hl 3 rfl) ?_
          refine m_call (n := 1) (As := [.int (iI (a))]) (rest := [.int (iI (u))]) hx hb hml hts hown hK hW (c8_endOf l D cI cZ ad τ hI a.toNat a (by omega) (by omega)) gX8_layer_X8_endOf rfl rfl rfl (by decide +kernel) ⟨by decide, by decide⟩ rfl hl.1 rfl (Nat.le_of_ble_eq_true rfl) ⟨Nat.zero_le _, Nat.zero_le _⟩ dX8_layer_70 ?_
          have r5 := en_r hI a.toNat
          refine z_icmp_gt (tgt := 89) hx hb (by omega) (by omega) dX8_layer_73 (by decide) (fun c6 => ?_) (fun c6 => ?_)
          · refine z_bipush hx hb dX8_layer_89 (by decide) ?_
            exact m_iret hx hb hr hlocks (by unfold stLayer; rw [if_neg (fun hk => by first | omega | exact hk.1 (by assumption) | exact hk.2.1 (by assumption) | exact hk.2.2.1 (by assumption) | exact hk.2.2.2.1 (by assumption) | exact hk.2.2.2 (by assumption) | exact hk.2.2.2.2 (by assumption))]; exact hW) hS hz (by unfold spLayer; repeat (first | rw [if_pos (by first | assumption | omega)] | rw [if_neg (by first | assumption | omega | (intro hk; exact hk (by assumption)))])) dX8_layer_91
          · refine lv_iload hx hb dX8_layer_76 (lv_at hl 6 rfl) ?_
            refine z_i2l hx hb (by omega) dX8_layer_78 ?_
            refine z_lconst (n := 0) hx hb (by decide) dX8_layer_79 ?_
            refine z_ldc2 (n := 9) hx hb hown (hts (.constantLong RX8 124 (9)) (by decide +kernel)) (by decide) dX8_layer_80 ?_
            refine s_call (n := 3) (As := [.long (lL (v)), .long (lL (0)), .long (lL (9))]) (rest := []) hx hb hml hts hown (c8_in l v (by omega) 0 (by omega) 9 (by omega)) gX8_layer_X8_in rfl rfl rfl (by decide +kernel) ⟨by decide, by decide⟩ rfl hl.1 rfl (Nat.le_of_ble_eq_true rfl) ⟨Nat.zero_le _, Nat.zero_le _⟩ dX8_layer_83 ?_
            refine z_if_neB (tgt := 92) hx hb dX8_layer_86 (by decide) (fun c7 => ?_) (fun c7 => ?_)
            · refine lv_aload_n hx hb dX8_layer_92 rfl (lv_at hl 2 rfl) ?_
              refine m_get hx hb hts hin8 hown hK hW 8 (by decide) (hts _ (by decide +kernel)) (v := .ref (ad 8)) rfl dX8_layer_93 ?_
              refine lv_iload hx hb dX8_layer_96 (lv_at hl 1 rfl) ?_
              refine m_ald (d := 8) (j := (2 * a.toNat) + b.toNat) hx hb hK hW rfl (by omega) (show (2 * a.toNat) + b.toNat < 8 from by omega) dX8_layer_98 ?_
              have r8 : (0 : Int) ≤ τ 8 ((2 * a.toNat) + b.toNat) ∧ τ 8 ((2 * a.toNat) + b.toNat) ≤ 20 := hI 8 ((2 * a.toNat) + b.toNat)
              refine z_bipush hx hb dX8_layer_99 (by decide) ?_
              refine z_icmp_ne (tgt := 107) hx hb (by omega) (by omega) dX8_layer_101 (by decide) (fun c9 => ?_) (fun c9 => ?_)
              · refine lv_aload_n hx hb dX8_layer_107 rfl (lv_at hl 2 rfl) ?_
                refine m_get hx hb hts hin8 hown hK hW 9 (by decide) (hts _ (by decide +kernel)) (v := .ref (ad 9)) rfl dX8_layer_108 ?_
                refine z_bipush hx hb dX8_layer_111 (by decide) ?_
                refine lv_iload hx hb dX8_layer_113 (lv_at hl 1 rfl) ?_
                refine z_imul hx hb dX8_layer_115 ?_
                refine lv_aload_n hx hb dX8_layer_116 rfl (lv_at hl 2 rfl) ?_
                refine m_get hx hb hts hin8 hown hK hW 8 (by decide) (hts _ (by decide +kernel)) (v := .ref (ad 8)) rfl dX8_layer_117 ?_
                refine lv_iload hx hb dX8_layer_120 (lv_at hl 1 rfl) ?_
                refine m_ald (d := 8) (j := (2 * a.toNat) + b.toNat) hx hb hK hW rfl (by omega) (show (2 * a.toNat) + b.toNat < 8 from by omega) dX8_layer_122 ?_
                refine z_iadd hx hb dX8_layer_123 ?_
                refine lv_iload_n hx hb dX8_layer_124 rfl (lv_at hl 5 rfl) ?_
                refine m_ast (d := 9) (j := (20 * ((2 * a.toNat) + b.toNat)) + ((τ 8 ((2 * a.toNat) + b.toNat)).toNat)) (v := u) hx hb hK hW hS hz rfl (by omega) (show (20 * ((2 * a.toNat) + b.toNat)) + ((τ 8 ((2 * a.toNat) + b.toNat)).toNat) < 160 from by omega) dX8_layer_125 (fun H locs hW hS hz => ?_)
                have hR := Rng.tu (c := 9) (i := (20 * ((2 * a.toNat) + b.toNat)) + ((τ 8 ((2 * a.toNat) + b.toNat)).toNat)) (v := u) hR (show (0 : Int) ≤ u from by omega) (show u ≤ 20000 from by omega)
                refine lv_aload_n hx hb dX8_layer_126 rfl (lv_at hl 2 rfl) ?_
                refine m_get hx hb hts hin8 hown hK hW 10 (by decide) (hts _ (by decide +kernel)) (v := .ref (ad 10)) rfl dX8_layer_127 ?_
                refine z_bipush hx hb dX8_layer_130 (by decide) ?_
                refine lv_iload hx hb dX8_layer_132 (lv_at hl 1 rfl) ?_
                refine z_imul hx hb dX8_layer_134 ?_
                refine lv_aload_n hx hb dX8_layer_135 rfl (lv_at hl 2 rfl) ?_
                refine m_get hx hb hts hin8 hown hK hW 8 (by decide) (hts _ (by decide +kernel)) (v := .ref (ad 8)) rfl dX8_layer_136 ?_
                refine lv_iload hx hb dX8_layer_139 (lv_at hl 1 rfl) ?_
                refine m_ald (d := 8) (j := (2 * a.toNat) + b.toNat) hx hb hK hW rfl (by omega) (show (2 * a.toNat) + b.toNat < 8 from by omega) dX8_layer_141 ?_
                refine z_top (show (tu τ 9 ((20 * ((2 * a.toNat) + b.toNat)) + ((τ 8 ((2 * a.toNat) + b.toNat)).toNat)) u) 8 ((2 * a.toNat) + b.toNat) = τ 8 ((2 * a.toNat) + b.toNat) from by rw [tu_n (show 8 ≠ 9 by decide)]) ?_
                refine z_iadd hx hb dX8_layer_142 ?_
                refine lv_iload hx hb dX8_layer_143 (lv_at hl 6 rfl) ?_
                refine m_ast (d := 10) (j := (20 * ((2 * a.toNat) + b.toNat)) + ((τ 8 ((2 * a.toNat) + b.toNat)).toNat)) (v := v) hx hb hK hW hS hz rfl (by omega) (show (20 * ((2 * a.toNat) + b.toNat)) + ((τ 8 ((2 * a.toNat) + b.toNat)).toNat) < 160 from by omega) dX8_layer_145 (fun H locs hW hS hz => ?_)
                have hR := Rng.tu (c := 10) (i := (20 * ((2 * a.toNat) + b.toNat)) + ((τ 8 ((2 * a.toNat) + b.toNat)).toNat)) (v := v) hR (show (0 : Int) ≤ v from by omega) (show v ≤ 9 from by omega)
                refine lv_aload_n hx hb dX8_layer_146 rfl (lv_at hl 2 rfl) ?_
                refine m_get hx hb hts hin8 hown hK hW 8 (by decide) (hts _ (by decide +kernel)) (v := .ref (ad 8)) rfl dX8_layer_147 ?_
                refine lv_iload hx hb dX8_layer_150 (lv_at hl 1 rfl) ?_
                refine lv_dup2_11 hx hb dX8_layer_152 rfl rfl ?_
                refine m_ald (d := 8) (j := (2 * a.toNat) + b.toNat) hx hb hK hW rfl (by omega) (show (2 * a.toNat) + b.toNat < 8 from by omega) dX8_layer_153 ?_
                refine z_top (show (tu (tu τ 9 ((20 * ((2 * a.toNat) + b.toNat)) + ((τ 8 ((2 * a.toNat) + b.toNat)).toNat)) u) 10 ((20 * ((2 * a.toNat) + b.toNat)) + ((τ 8 ((2 * a.toNat) + b.toNat)).toNat)) v) 8 ((2 * a.toNat) + b.toNat) = τ 8 ((2 * a.toNat) + b.toNat) from by rw [tu_n (show 8 ≠ 10 by decide), tu_n (show 8 ≠ 9 by decide)]) ?_
                refine z_iconst hx hb dX8_layer_154 ?_
                refine z_iadd hx hb dX8_layer_155 ?_
                refine m_ast (d := 8) (j := (2 * a.toNat) + b.toNat) (v := (τ 8 ((2 * a.toNat) + b.toNat)) + 1) hx hb hK hW hS hz rfl (by omega) (show (2 * a.toNat) + b.toNat < 8 from by omega) dX8_layer_156 (fun H locs hW hS hz => ?_)
                have hR := Rng.tu (c := 8) (i := (2 * a.toNat) + b.toNat) (v := (τ 8 ((2 * a.toNat) + b.toNat)) + 1) hR (show (0 : Int) ≤ (τ 8 ((2 * a.toNat) + b.toNat)) + 1 from by omega) (show (τ 8 ((2 * a.toNat) + b.toNat)) + 1 ≤ 20 from by omega)
                refine lv_aload_n hx hb dX8_layer_157 rfl (lv_at hl 2 rfl) ?_
                refine m_get hx hb hts hin8 hown hK hW 8 (by decide) (hts _ (by decide +kernel)) (v := .ref (ad 8)) rfl dX8_layer_158 ?_
                refine lv_iload hx hb dX8_layer_161 (lv_at hl 1 rfl) ?_
                refine m_ald (d := 8) (j := (2 * a.toNat) + b.toNat) hx hb hK hW rfl (by omega) (show (2 * a.toNat) + b.toNat < 8 from by omega) dX8_layer_163 ?_
                refine z_top (show (tu (tu (tu τ 9 ((20 * ((2 * a.toNat) + b.toNat)) + ((τ 8 ((2 * a.toNat) + b.toNat)).toNat)) u) 10 ((20 * ((2 * a.toNat) + b.toNat)) + ((τ 8 ((2 * a.toNat) + b.toNat)).toNat)) v) 8 ((2 * a.toNat) + b.toNat) ((τ 8 ((2 * a.toNat) + b.toNat)) + 1)) 8 ((2 * a.toNat) + b.toNat) = (τ 8 ((2 * a.toNat) + b.toNat)) + 1 from by rw [tu_s]) ?_
                exact m_iret hx hb hr hlocks (by unfold stLayer; rw [if_pos (by refine ⟨?_, ?_, ?_⟩ <;> first | omega | assumption)]; exact hW) hS hz (by unfold spLayer; repeat (first | rw [if_pos (by first | assumption | omega)] | rw [if_neg (by first | assumption | omega | (intro hk; exact hk (by assumption)))])) dX8_layer_164
              · refine z_bipush hx hb dX8_layer_104 (by decide) ?_
                exact m_iret hx hb hr hlocks (by unfold stLayer; rw [if_neg (fun hk => by first | omega | exact hk.1 (by assumption) | exact hk.2.1 (by assumption) | exact hk.2.2.1 (by assumption) | exact hk.2.2.2.1 (by assumption) | exact hk.2.2.2 (by assumption) | exact hk.2.2.2.2 (by assumption))]; exact hW) hS hz (by unfold spLayer; repeat (first | rw [if_pos (by first | assumption | omega)] | rw [if_neg (by first | assumption | omega | (intro hk; exact hk (by assumption)))])) dX8_layer_106
            · refine z_bipush hx hb dX8_layer_89 (by decide) ?_
              exact m_iret hx hb hr hlocks (by unfold stLayer; rw [if_neg (fun hk => by first | omega | exact hk.1 (by assumption) | exact hk.2.1 (by assumption) | exact hk.2.2.1 (by assumption) | exact hk.2.2.2.1 (by assumption) | exact hk.2.2.2 (by assumption) | exact hk.2.2.2.2 (by assumption))]; exact hW) hS hz (by unfold spLayer; repeat (first | rw [if_pos (by first | assumption | omega)] | rw [if_neg (by first | assumption | omega | (intro hk; exact hk (by assumption)))])) dX8_layer_91
      refine lv_aload_n hx hb dX8_layer_25 rfl (lv_at hl 1 rfl) ?_
      refine m_get hx hb hts hin8 hown hK hW 8 (by decide) (hts _ (by decide +kernel)) (v := .ref (ad 8)) rfl dX8_layer_26 ?_
      refine lv_iload hx hb dX8_layer_29 (lv_at hl 0 rfl) ?_
      refine m_ald (d := 8) (j := (2 * a.toNat) + b.toNat) hx hb hK hW rfl (by omega) (show (2 * a.toNat) + b.toNat < 8 from by omega) dX8_layer_31 ?_
      have r10 : (0 : Int) ≤ τ 8 ((2 * a.toNat) + b.toNat) ∧ τ 8 ((2 * a.toNat) + b.toNat) ≤ 20 := hI 8 ((2 * a.toNat) + b.toNat)
      refine z_if_ne (tgt := 39) hx hb (by omega) dX8_layer_32 (by decide) (fun c11 => ?_) (fun c11 => ?_)
      · refine lv_aload_n hx hb dX8_layer_39 rfl (lv_at hl 1 rfl) ?_
        refine m_get hx hb hts hin8 hown hK hW 9 (by decide) (hts _ (by decide +kernel)) (v := .ref (ad 9)) rfl dX8_layer_40 ?_
        refine z_bipush hx hb dX8_layer_43 (by decide) ?_
        refine lv_iload hx hb dX8_layer_45 (lv_at hl 0 rfl) ?_
        refine z_imul hx hb dX8_layer_47 ?_
        refine lv_aload_n hx hb dX8_layer_48 rfl (lv_at hl 1 rfl) ?_
        refine m_get hx hb hts hin8 hown hK hW 8 (by decide) (hts _ (by decide +kernel)) (v := .ref (ad 8)) rfl dX8_layer_49 ?_
        refine lv_iload hx hb dX8_layer_52 (lv_at hl 0 rfl) ?_
        refine m_ald (d := 8) (j := (2 * a.toNat) + b.toNat) hx hb hK hW rfl (by omega) (show (2 * a.toNat) + b.toNat < 8 from by omega) dX8_layer_54 ?_
        refine z_iadd hx hb dX8_layer_55 ?_
        refine z_iconst hx hb dX8_layer_56 ?_
        refine z_isub hx hb dX8_layer_57 ?_
        refine m_ald (d := 9) (j := 20 * (2 * a.toNat + b.toNat) + ((τ 8 (2 * a.toNat + b.toNat)).toNat - 1)) hx hb hK hW rfl (by omega) (show 20 * (2 * a.toNat + b.toNat) + ((τ 8 (2 * a.toNat + b.toNat)).toNat - 1) < 160 from by omega) dX8_layer_58 ?_
        have r12 : (0 : Int) ≤ τ 9 (20 * (2 * a.toNat + b.toNat) + ((τ 8 (2 * a.toNat + b.toNat)).toNat - 1)) ∧ τ 9 (20 * (2 * a.toNat + b.toNat) + ((τ 8 (2 * a.toNat + b.toNat)).toNat - 1)) ≤ 20000 := hI 9 (20 * (2 * a.toNat + b.toNat) + ((τ 8 (2 * a.toNat + b.toNat)).toNat - 1))
        exact jn59 (τ 9 (20 * (2 * a.toNat + b.toNat) + ((τ 8 (2 * a.toNat + b.toNat)).toNat - 1))) (by unfold frO; rw [if_neg (by omega)]) ls (lv_sub hl [0, 1, 2, 3, 4, 5] rfl)
      · refine z_iconst hx hb dX8_layer_35 ?_
        refine lv_goto (tgt := 59) hx hb dX8_layer_36 (by decide) ?_
        exact jn59 0 (by unfold frO; rw [if_pos (by omega)]) ls (lv_sub hl [0, 1, 2, 3, 4, 5] rfl)
    · refine z_bipush hx hb dX8_layer_15 (by decide) ?_
      exact m_iret hx hb hr hlocks (by unfold stLayer; rw [if_neg (fun hk => by first | omega | exact hk.1 (by assumption) | exact hk.2.1 (by assumption) | exact hk.2.2.1 (by assumption) | exact hk.2.2.2.1 (by assumption) | exact hk.2.2.2 (by assumption) | exact hk.2.2.2.2 (by assumption))]; exact hW) hS hz (by unfold spLayer; repeat (first | rw [if_pos (by first | assumption | omega)] | rw [if_neg (by first | assumption | omega | (intro hk; exact hk (by assumption)))])) dX8_layer_17
set_option maxHeartbeats 4000000 in
set_option maxRecDepth 100000 in
theorem c8_rock (l : Launch) (D : va_G) (cI cZ : ClassId) (ad : Nat → Nat) (τ : Tau) (hI : Rng τ) (a : Int) (h_a : I32 a) (b : Int) (h_b : I32 b) (x : Int) (h_x : I32 x)  : Met l yX8_rock wsX8_rock { frames := 2, cells := 0, slots := 0, locals := 46 } (mPc D cI cZ ad τ [.ref (ad 0), .int (iI (a)), .int (iI (b)), .int (iI (x))]) (rS (spRock τ a b x)) 0 0 NoA := by
  refine m_start (by decide) rfl (Nat.le_of_ble_eq_true rfl) ?_
  intro p e s m below meth c hx hb hr hlocks hml hts hown hW hK ls hl
  have hin8 : ∀ w ∈ wsX80, w ∈ wsX8_rock := by decide +kernel
  have hl : lv_has ls 6 [(0, .ref (ad 0)), (1, .int (iI (a))), (2, .int (iI (b))), (3, .int (iI (x)))] := hl
  refine lv_aload_n hx hb dX8_rock_0 rfl (lv_at hl 0 rfl) ?_
  refine lv_iload_n hx hb dX8_rock_1 rfl (lv_at hl 1 rfl) ?_
  refine m_call (n := 1) (As := [.int (iI (a))]) (rest := []) hx hb hml hts hown hK hW (c8_isHole l D cI cZ ad τ hI a (by omega)) gX8_rock_X8_isHole rfl rfl rfl (by decide +kernel) ⟨by decide, by decide⟩ rfl hl.1 rfl (Nat.le_of_ble_eq_true rfl) ⟨Nat.zero_le _, Nat.zero_le _⟩ dX8_rock_2 ?_
  have r1 := (show (0 : Int) ≤ τ 0 0 ∧ τ 0 0 ≤ 4 from hI 0 0)
  refine z_if_eqB (tgt := 15) hx hb dX8_rock_5 (by decide) (fun c2 => ?_) (fun c2 => ?_)
  · refine z_bipush hx hb dX8_rock_15 (by decide) ?_
    exact s_iret hx hb hr hlocks (by unfold spRock; repeat (first | rw [if_pos (by first | assumption | omega)] | rw [if_neg (by first | assumption | omega | (intro hk; exact hk (by assumption)))])) dX8_rock_17
  · refine lv_iload_n hx hb dX8_rock_8 rfl (lv_at hl 2 rfl) ?_
    refine s_call (n := 1) (As := [.int (iI (b))]) (rest := []) hx hb hml hts hown (c8_isLog l b (by omega)) gX8_rock_X8_isLog rfl rfl rfl (by decide +kernel) ⟨by decide, by decide⟩ rfl hl.1 rfl (Nat.le_of_ble_eq_true rfl) ⟨Nat.zero_le _, Nat.zero_le _⟩ dX8_rock_9 ?_
    refine z_if_neB (tgt := 18) hx hb dX8_rock_12 (by decide) (fun c3 => ?_) (fun c3 => ?_)
    · refine z_iconst hx hb dX8_rock_18 ?_
      refine lv_iload_n hx hb dX8_rock_19 rfl (lv_at hl 1 rfl) ?_
      refine z_imul hx hb dX8_rock_20 ?_
      refine lv_iload_n hx hb dX8_rock_21 rfl (lv_at hl 2 rfl) ?_
      refine z_iadd hx hb dX8_rock_22 ?_
      refine lv_istore (lv' := [(4, .int (iI ((2 * a) + b))), (0, .ref (ad 0)), (1, .int (iI (a))), (2, .int (iI (b))), (3, .int (iI (x)))]) hx hb dX8_rock_23 hl (by decide) rfl (fun ls hl => ?_)
      obtain ⟨N, hN⟩ : ∃ N : Nat, τ 8 (2 * a.toNat + b.toNat) = N := ⟨(τ 8 (2 * a.toNat + b.toNat)).toNat, by have : (0 : Int) ≤ τ 8 (2 * a.toNat + b.toNat) ∧ τ 8 (2 * a.toNat + b.toNat) ≤ 20 := hI 8 (2 * a.toNat + b.toNat); omega⟩
      have hN2 : (τ 8 (2 * a.toNat + b.toNat)).toNat = N := by omega
      have hN3 : N ≤ 20 := by have : (0 : Int) ≤ τ 8 (2 * a.toNat + b.toNat) ∧ τ 8 (2 * a.toNat + b.toNat) ≤ 20 := hI 8 (2 * a.toNat + b.toNat); omega
      refine z_iconst hx hb dX8_rock_25 ?_
      refine lv_istore (lv' := [(5, .int (iI (0))), (4, .int (iI ((2 * a) + b))), (0, .ref (ad 0)), (1, .int (iI (a))), (2, .int (iI (b))), (3, .int (iI (x)))]) hx hb dX8_rock_26 hl (by decide) rfl (fun ls hl => ?_)
      have lp28 : ∀ (n28 k : Nat) (x5 : Int), x5 = (k : Int) → k ≤ N → N + 1 ≤ k + n28 → (∀ j, j < k → rkB τ (2 * a.toNat + b.toNat) x j = false) → ∀ ls : Array Slot, lv_has ls 6 [(5, .int (iI (x5))), (4, .int (iI ((2 * a) + b))), (0, .ref (ad 0)), (1, .int (iI (a))), (2, .int (iI (b))), (3, .int (iI (x)))] → W p l e { frames := 2, cells := 0, slots := 0, locals := 46 } s m [.ref (ad 0), .int (iI (a)), .int (iI (b)), .int (iI (x))].toArray below meth c s.heap [] 0 0 (MQ below (rS (spRock τ a b x)) [.ref (ad 0), .int (iI (a)), .int (iI (b)), .int (iI (x))].toArray s 0 0 (NoA)) (F0 m 28 ls []) := by
        intro n28
        induction n28 with
        | zero => intro k x5 ex5 hk1 hk2; exact absurd hk2 (by omega)
        | succ n28 ih28 =>
          intro k x5 ex5 hk1 hk2 hn ls hl
          subst ex5
          refine lv_iload hx hb dX8_rock_28 (lv_at hl 0 rfl) ?_
          refine lv_aload_n hx hb dX8_rock_30 rfl (lv_at hl 2 rfl) ?_
          refine m_get hx hb hts hin8 hown hK hW 8 (by decide) (hts _ (by decide +kernel)) (v := .ref (ad 8)) rfl dX8_rock_31 ?_
          refine lv_iload hx hb dX8_rock_34 (lv_at hl 1 rfl) ?_
          refine m_ald (d := 8) (j := (2 * a.toNat) + b.toNat) hx hb hK hW rfl (by omega) (show (2 * a.toNat) + b.toNat < 8 from by omega) dX8_rock_36 ?_
          have r4 : (0 : Int) ≤ τ 8 ((2 * a.toNat) + b.toNat) ∧ τ 8 ((2 * a.toNat) + b.toNat) ≤ 20 := hI 8 ((2 * a.toNat) + b.toNat)
          refine z_icmp_ge (tgt := 84) hx hb (by omega) (by omega) dX8_rock_37 (by decide) (fun c5 => ?_) (fun c5 => ?_)
          · refine z_iconst hx hb dX8_rock_84 ?_
            exact s_iret hx hb hr hlocks (by unfold spRock; rw [if_neg (by omega), if_pos (by unfold rkI; rw [hN2, show N = k by omega]; exact ff_no hn)]) dX8_rock_85
          · refine lv_iload_n hx hb dX8_rock_40 rfl (lv_at hl 5 rfl) ?_
            refine lv_aload_n hx hb dX8_rock_41 rfl (lv_at hl 2 rfl) ?_
            refine lv_iload hx hb dX8_rock_42 (lv_at hl 1 rfl) ?_
            refine lv_iload hx hb dX8_rock_44 (lv_at hl 0 rfl) ?_
            refine m_call (n := 2) (As := [.int (iI ((2 * a) + b)), .int (iI ((k : Int)))]) (rest := [.int (iI (x))]) hx hb hml hts hown hK hW (c8_fromOf l D cI cZ ad τ hI ((2 * a.toNat) + b.toNat) ((2 * a) + b) (by omega) k (k : Int) (by omega) (by omega) (by omega)) gX8_rock_X8_fromOf rfl rfl rfl (by decide +kernel) ⟨by decide, by decide⟩ rfl hl.1 rfl (Nat.le_of_ble_eq_true rfl) ⟨Nat.zero_le _, Nat.zero_le _⟩ dX8_rock_46 ?_
            have r6 := fr_r hI ((2 * a.toNat) + b.toNat) k
            refine z_icmp_lt (tgt := 78) hx hb (by omega) (by omega) dX8_rock_49 (by decide) (fun c7 => ?_) (fun c7 => ?_)
            · refine z_iinc (k := 0) (lv' := [(5, .int (iI ((k : Int) + 1))), (4, .int (iI ((2 * a) + b))), (0, .ref (ad 0)), (1, .int (iI (a))), (2, .int (iI (b))), (3, .int (iI (x)))]) hx hb dX8_rock_78 hl rfl (by decide) rfl (fun ls hl => ?_)
              refine lv_goto (tgt := 28) hx hb dX8_rock_81 (by decide) ?_
              exact ih28 (k + 1) ((k : Int) + 1) (by omega) (by omega) (by omega) (fl_s hn (decide_eq_false (by omega))) ls (lv_sub hl [0, 1, 2, 3, 4, 5] rfl)
            · refine lv_iload_n hx hb dX8_rock_52 rfl (lv_at hl 5 rfl) ?_
              refine lv_aload_n hx hb dX8_rock_53 rfl (lv_at hl 2 rfl) ?_
              refine m_get hx hb hts hin8 hown hK hW 9 (by decide) (hts _ (by decide +kernel)) (v := .ref (ad 9)) rfl dX8_rock_54 ?_
              refine z_bipush hx hb dX8_rock_57 (by decide) ?_
              refine lv_iload hx hb dX8_rock_59 (lv_at hl 1 rfl) ?_
              refine z_imul hx hb dX8_rock_61 ?_
              refine lv_iload hx hb dX8_rock_62 (lv_at hl 0 rfl) ?_
              refine z_iadd hx hb dX8_rock_64 ?_
              refine m_ald (d := 9) (j := (20 * ((2 * a.toNat) + b.toNat)) + k) hx hb hK hW rfl (by omega) (show (20 * ((2 * a.toNat) + b.toNat)) + k < 160 from by omega) dX8_rock_65 ?_
              have r8 : (0 : Int) ≤ τ 9 ((20 * ((2 * a.toNat) + b.toNat)) + k) ∧ τ 9 ((20 * ((2 * a.toNat) + b.toNat)) + k) ≤ 20000 := hI 9 ((20 * ((2 * a.toNat) + b.toNat)) + k)
              refine z_icmp_ge (tgt := 78) hx hb (by omega) (by omega) dX8_rock_66 (by decide) (fun c9 => ?_) (fun c9 => ?_)
              · refine z_iinc (k := 0) (lv' := [(5, .int (iI ((k : Int) + 1))), (4, .int (iI ((2 * a) + b))), (0, .ref (ad 0)), (1, .int (iI (a))), (2, .int (iI (b))), (3, .int (iI (x)))]) hx hb dX8_rock_78 hl rfl (by decide) rfl (fun ls hl => ?_)
                refine lv_goto (tgt := 28) hx hb dX8_rock_81 (by decide) ?_
                exact ih28 (k + 1) ((k : Int) + 1) (by omega) (by omega) (by omega) (fl_s hn (decide_eq_false (by omega))) ls (lv_sub hl [0, 1, 2, 3, 4, 5] rfl)
              · refine lv_aload_n hx hb dX8_rock_69 rfl (lv_at hl 2 rfl) ?_
                refine lv_iload hx hb dX8_rock_70 (lv_at hl 1 rfl) ?_
                refine lv_iload hx hb dX8_rock_72 (lv_at hl 0 rfl) ?_
                refine m_call (n := 2) (As := [.int (iI ((2 * a) + b)), .int (iI ((k : Int)))]) (rest := []) hx hb hml hts hown hK hW (c8_codeOf l D cI cZ ad τ hI ((2 * a.toNat) + b.toNat) ((2 * a) + b) (by omega) k (k : Int) (by omega) (by omega) (by omega)) gX8_rock_X8_codeOf rfl rfl rfl (by decide +kernel) ⟨by decide, by decide⟩ rfl hl.1 rfl (Nat.le_of_ble_eq_true rfl) ⟨Nat.zero_le _, Nat.zero_le _⟩ dX8_rock_74 ?_
                have r10 := cd_r hI ((2 * a.toNat) + b.toNat) k
                exact s_iret hx hb hr hlocks (by have hf : rkI τ (2 * a.toNat + b.toNat) x = k := (by unfold rkI; rw [hN2]; exact ff_at hn (decide_eq_true (by omega)) (by omega)); unfold spRock; rw [if_neg (by omega), hf, if_neg (by omega), Int.toNat_natCast]) dX8_rock_77
      exact lp28 (N + 1) 0 0 (by omega) (by omega) (by omega) fl_0 ls (lv_sub hl [0, 1, 2, 3, 4, 5] rfl)
    · refine z_bipush hx hb dX8_rock_15 (by decide) ?_
      exact s_iret hx hb hr hlocks (by unfold spRock; repeat (first | rw [if_pos (by first | assumption | omega)] | rw [if_neg (by first | assumption | omega | (intro hk; exact hk (by assumption)))])) dX8_rock_17
set_option maxHeartbeats 4000000 in
set_option maxRecDepth 100000 in
theorem c8_agree (l : Launch) (D : va_G) (cI cZ : ClassId) (ad : Nat → Nat) (τ : Tau) (hI : Rng τ) (a : Int) (h_a : I32 a)  : Met l yX8_agree wsX8_agree { frames := 2, cells := 0, slots := 0, locals := 46 } (mPc D cI cZ ad τ [.ref (ad 0), .int (iI (a))]) (rS (spAgree τ a)) 0 0 NoA := by
  refine m_start (by decide) rfl (Nat.le_of_ble_eq_true rfl) ?_
  intro p e s m below meth c hx hb hr hlocks hml hts hown hW hK ls hl
  have hin8 : ∀ w ∈ wsX80, w ∈ wsX8_agree := by decide +kernel
  have hl : lv_has ls 5 [(0, .ref (ad 0)), (1, .int (iI (a)))] := hl
  refine lv_aload_n hx hb dX8_agree_0 rfl (lv_at hl 0 rfl) ?_
  refine lv_iload_n hx hb dX8_agree_1 rfl (lv_at hl 1 rfl) ?_
  refine m_call (n := 1) (As := [.int (iI (a))]) (rest := []) hx hb hml hts hown hK hW (c8_isHole l D cI cZ ad τ hI a (by omega)) gX8_agree_X8_isHole rfl rfl rfl (by decide +kernel) ⟨by decide, by decide⟩ rfl hl.1 rfl (Nat.le_of_ble_eq_true rfl) ⟨Nat.zero_le _, Nat.zero_le _⟩ dX8_agree_2 ?_
  have r1 := (show (0 : Int) ≤ τ 0 0 ∧ τ 0 0 ≤ 4 from hI 0 0)
  refine z_if_neB (tgt := 11) hx hb dX8_agree_5 (by decide) (fun c2 => ?_) (fun c2 => ?_)
  · obtain ⟨N, hN⟩ : ∃ N : Nat, τ 8 (2 * a.toNat) = N := ⟨(τ 8 (2 * a.toNat)).toNat, by have : (0 : Int) ≤ τ 8 (2 * a.toNat) ∧ τ 8 (2 * a.toNat) ≤ 20 := hI 8 (2 * a.toNat); omega⟩
    have hN2 : (τ 8 (2 * a.toNat)).toNat = N := by omega
    have hN3 : N ≤ 20 := by have : (0 : Int) ≤ τ 8 (2 * a.toNat) ∧ τ 8 (2 * a.toNat) ≤ 20 := hI 8 (2 * a.toNat); omega
    obtain ⟨M, hM⟩ : ∃ N : Nat, τ 8 (2 * a.toNat + 1) = N := ⟨(τ 8 (2 * a.toNat + 1)).toNat, by have : (0 : Int) ≤ τ 8 (2 * a.toNat + 1) ∧ τ 8 (2 * a.toNat + 1) ≤ 20 := hI 8 (2 * a.toNat + 1); omega⟩
    have hM2 : (τ 8 (2 * a.toNat + 1)).toNat = M := by omega
    have hM3 : M ≤ 20 := by have : (0 : Int) ≤ τ 8 (2 * a.toNat + 1) ∧ τ 8 (2 * a.toNat + 1) ≤ 20 := hI 8 (2 * a.toNat + 1); omega
    refine z_iconst hx hb dX8_agree_11 ?_
    refine lv_istore_n (lv' := [(2, .int (iI (0))), (0, .ref (ad 0)), (1, .int (iI (a)))]) hx hb dX8_agree_12 rfl hl (by decide) rfl (fun ls hl => ?_)
    refine z_iconst hx hb dX8_agree_13 ?_
    refine lv_istore_n (lv' := [(3, .int (iI (0))), (2, .int (iI (0))), (0, .ref (ad 0)), (1, .int (iI (a)))]) hx hb dX8_agree_14 rfl hl (by decide) rfl (fun ls hl => ?_)
    have lp15 : ∀ (n15 i : Nat) (x2 x3 : Int), x2 = sm (fun i => sm (fun j => agU τ a.toNat i j) M) i → x3 = (i : Int) → i ≤ N → N + 1 ≤ i + n15 → ∀ ls : Array Slot, lv_has ls 5 [(2, .int (iI (x2))), (3, .int (iI (x3))), (0, .ref (ad 0)), (1, .int (iI (a)))] → W p l e { frames := 2, cells := 0, slots := 0, locals := 46 } s m [.ref (ad 0), .int (iI (a))].toArray below meth c s.heap [] 0 0 (MQ below (rS (spAgree τ a)) [.ref (ad 0), .int (iI (a))].toArray s 0 0 (NoA)) (F0 m 15 ls []) := by
      intro n15
      induction n15 with
      | zero => intro i x2 x3 ex2 ex3 hk1 hk2; exact absurd hk2 (by omega)
      | succ n15 ih15 =>
        intro i x2 x3 ex2 ex3 hk1 hk2  ls hl
        subst ex2
        subst ex3
        refine lv_iload_n hx hb dX8_agree_15 rfl (lv_at hl 1 rfl) ?_
        refine lv_aload_n hx hb dX8_agree_16 rfl (lv_at hl 2 rfl) ?_
        refine m_get hx hb hts hin8 hown hK hW 8 (by decide) (hts _ (by decide +kernel)) (v := .ref (ad 8)) rfl dX8_agree_17 ?_
        refine z_iconst hx hb dX8_agree_20 ?_
        refine lv_iload_n hx hb dX8_agree_21 rfl (lv_at hl 3 rfl) ?_
        refine z_imul hx hb dX8_agree_22 ?_
        refine m_ald (d := 8) (j := 2 * a.toNat) hx hb hK hW rfl (by omega) (show 2 * a.toNat < 8 from by omega) dX8_agree_23 ?_
        have r3 : (0 : Int) ≤ τ 8 (2 * a.toNat) ∧ τ 8 (2 * a.toNat) ≤ 20 := hI 8 (2 * a.toNat)
        refine z_icmp_ge (tgt := 130) hx hb (by omega) (by omega) dX8_agree_24 (by decide) (fun c4 => ?_) (fun c4 => ?_)
        · refine lv_iload_n hx hb dX8_agree_130 rfl (lv_at hl 0 rfl) ?_
          exact s_iret hx hb hr hlocks (by unfold spAgree; rw [if_neg (by omega)]; unfold agO; rw [hN2, hM2, show N = i by omega]) dX8_agree_131
        · refine z_iconst hx hb dX8_agree_27 ?_
          refine lv_istore (lv' := [(4, .int (iI (0))), (2, .int (iI (sm (fun i => sm (fun j => agU τ a.toNat i j) M) i))), (3, .int (iI ((i : Int)))), (0, .ref (ad 0)), (1, .int (iI (a)))]) hx hb dX8_agree_28 hl (by decide) rfl (fun ls hl => ?_)
          have lp30 : ∀ (n30 j : Nat) (x2 x4 : Int), x2 = sm (fun i => sm (fun j => agU τ a.toNat i j) M) i + sm (fun j => agU τ a.toNat i j) j → x4 = (j : Int) → j ≤ M → M + 1 ≤ j + n30 → ∀ ls : Array Slot, lv_has ls 5 [(2, .int (iI (x2))), (4, .int (iI (x4))), (3, .int (iI ((i : Int)))), (0, .ref (ad 0)), (1, .int (iI (a)))] → W p l e { frames := 2, cells := 0, slots := 0, locals := 46 } s m [.ref (ad 0), .int (iI (a))].toArray below meth c s.heap [] 0 0 (MQ below (rS (spAgree τ a)) [.ref (ad 0), .int (iI (a))].toArray s 0 0 (NoA)) (F0 m 30 ls []) := by
            intro n30
            induction n30 with
            | zero => intro j x2 x4 ex2 ex4 hk1 hk2; exact absurd hk2 (by omega)
            | succ n30 ih30 =>
              intro j x2 x4 ex2 ex4 hk1 hk2  ls hl
              subst ex2
              subst ex4
              refine lv_iload hx hb dX8_agree_30 (lv_at hl 1 rfl) ?_
              refine lv_aload_n hx hb dX8_agree_32 rfl (lv_at hl 3 rfl) ?_
              refine m_get hx hb hts hin8 hown hK hW 8 (by decide) (hts _ (by decide +kernel)) (v := .ref (ad 8)) rfl dX8_agree_33 ?_
              refine z_iconst hx hb dX8_agree_36 ?_
              refine lv_iload_n hx hb dX8_agree_37 rfl (lv_at hl 4 rfl) ?_
              refine z_imul hx hb dX8_agree_38 ?_
              refine z_iconst hx hb dX8_agree_39 ?_
              refine z_iadd hx hb dX8_agree_40 ?_
              refine m_ald (d := 8) (j := (2 * a.toNat) + 1) hx hb hK hW rfl (by omega) (show (2 * a.toNat) + 1 < 8 from by omega) dX8_agree_41 ?_
              have r5 : (0 : Int) ≤ τ 8 ((2 * a.toNat) + 1) ∧ τ 8 ((2 * a.toNat) + 1) ≤ 20 := hI 8 ((2 * a.toNat) + 1)
              refine z_icmp_ge (tgt := 124) hx hb (by omega) (by omega) dX8_agree_42 (by decide) (fun c6 => ?_) (fun c6 => ?_)
              · refine z_iinc (k := 2) (lv' := [(3, .int (iI ((i : Int) + 1))), (2, .int (iI (sm (fun i => sm (fun j => agU τ a.toNat i j) M) i + sm (fun j => agU τ a.toNat i j) j))), (4, .int (iI ((j : Int)))), (0, .ref (ad 0)), (1, .int (iI (a)))]) hx hb dX8_agree_124 hl rfl (by decide) rfl (fun ls hl => ?_)
                refine lv_goto (tgt := 15) hx hb dX8_agree_127 (by decide) ?_
                exact ih15 (i + 1) (sm (fun i => sm (fun j => agU τ a.toNat i j) M) i + sm (fun j => agU τ a.toNat i j) j) ((i : Int) + 1) (by rw [show M = j by omega]; rfl) (by omega) (by omega) (by omega)  ls (lv_sub hl [1, 0, 3, 4] rfl)
              · refine lv_aload_n hx hb dX8_agree_45 rfl (lv_at hl 3 rfl) ?_
                refine z_iconst hx hb dX8_agree_46 ?_
                refine lv_iload_n hx hb dX8_agree_47 rfl (lv_at hl 4 rfl) ?_
                refine z_imul hx hb dX8_agree_48 ?_
                refine lv_iload_n hx hb dX8_agree_49 rfl (lv_at hl 2 rfl) ?_
                refine m_call (n := 2) (As := [.int (iI (2 * a)), .int (iI ((i : Int)))]) (rest := []) hx hb hml hts hown hK hW (c8_codeOf l D cI cZ ad τ hI (2 * a.toNat) (2 * a) (by omega) i (i : Int) (by omega) (by omega) (by omega)) gX8_agree_X8_codeOf rfl rfl rfl (by decide +kernel) ⟨by decide, by decide⟩ rfl hl.1 rfl (Nat.le_of_ble_eq_true rfl) ⟨Nat.zero_le _, Nat.zero_le _⟩ dX8_agree_50 ?_
                have r7 := cd_r hI (2 * a.toNat) i
                refine lv_aload_n hx hb dX8_agree_53 rfl (lv_at hl 3 rfl) ?_
                refine z_iconst hx hb dX8_agree_54 ?_
                refine lv_iload_n hx hb dX8_agree_55 rfl (lv_at hl 4 rfl) ?_
                refine z_imul hx hb dX8_agree_56 ?_
                refine z_iconst hx hb dX8_agree_57 ?_
                refine z_iadd hx hb dX8_agree_58 ?_
                refine lv_iload hx hb dX8_agree_59 (lv_at hl 1 rfl) ?_
                refine m_call (n := 2) (As := [.int (iI ((2 * a) + 1)), .int (iI ((j : Int)))]) (rest := [.int (iI (cdO τ (2 * a.toNat) i))]) hx hb hml hts hown hK hW (c8_codeOf l D cI cZ ad τ hI ((2 * a.toNat) + 1) ((2 * a) + 1) (by omega) j (j : Int) (by omega) (by omega) (by omega)) gX8_agree_X8_codeOf rfl rfl rfl (by decide +kernel) ⟨by decide, by decide⟩ rfl hl.1 rfl (Nat.le_of_ble_eq_true rfl) ⟨Nat.zero_le _, Nat.zero_le _⟩ dX8_agree_61 ?_
                have r8 := cd_r hI ((2 * a.toNat) + 1) j
                refine z_icmp_ne (tgt := 118) hx hb (by omega) (by omega) dX8_agree_64 (by decide) (fun c9 => ?_) (fun c9 => ?_)
                · refine z_iinc (k := 1) (lv' := [(4, .int (iI ((j : Int) + 1))), (2, .int (iI (sm (fun i => sm (fun j => agU τ a.toNat i j) M) i + sm (fun j => agU τ a.toNat i j) j))), (3, .int (iI ((i : Int)))), (0, .ref (ad 0)), (1, .int (iI (a)))]) hx hb dX8_agree_118 hl rfl (by decide) rfl (fun ls hl => ?_)
                  refine lv_goto (tgt := 30) hx hb dX8_agree_121 (by decide) ?_
                  exact ih30 (j + 1) (sm (fun i => sm (fun j => agU τ a.toNat i j) M) i + sm (fun j => agU τ a.toNat i j) j) ((j : Int) + 1) (by rw [sm_s, ← Int.add_assoc]; (first | rw [ag_t (by omega)] | rw [ag_f (by omega), Int.add_zero])) (by omega) (by omega) (by omega)  ls (lv_sub hl [1, 0, 2, 3, 4] rfl)
                · refine lv_iload_n hx hb dX8_agree_67 rfl (lv_at hl 0 rfl) ?_
                  refine lv_aload_n hx hb dX8_agree_68 rfl (lv_at hl 3 rfl) ?_
                  refine z_iconst hx hb dX8_agree_69 ?_
                  refine lv_iload_n hx hb dX8_agree_70 rfl (lv_at hl 4 rfl) ?_
                  refine z_imul hx hb dX8_agree_71 ?_
                  refine lv_iload_n hx hb dX8_agree_72 rfl (lv_at hl 2 rfl) ?_
                  refine m_call (n := 2) (As := [.int (iI (2 * a)), .int (iI ((i : Int)))]) (rest := [.int (iI (sm (fun i => sm (fun j => agU τ a.toNat i j) M) i + sm (fun j => agU τ a.toNat i j) j))]) hx hb hml hts hown hK hW (c8_fromOf l D cI cZ ad τ hI (2 * a.toNat) (2 * a) (by omega) i (i : Int) (by omega) (by omega) (by omega)) gX8_agree_X8_fromOf rfl rfl rfl (by decide +kernel) ⟨by decide, by decide⟩ rfl hl.1 rfl (Nat.le_of_ble_eq_true rfl) ⟨Nat.zero_le _, Nat.zero_le _⟩ dX8_agree_73 ?_
                  have r10 := fr_r hI (2 * a.toNat) i
                  refine lv_aload_n hx hb dX8_agree_76 rfl (lv_at hl 3 rfl) ?_
                  refine m_get hx hb hts hin8 hown hK hW 9 (by decide) (hts _ (by decide +kernel)) (v := .ref (ad 9)) rfl dX8_agree_77 ?_
                  refine z_bipush hx hb dX8_agree_80 (by decide) ?_
                  refine lv_iload_n hx hb dX8_agree_82 rfl (lv_at hl 4 rfl) ?_
                  refine z_imul hx hb dX8_agree_83 ?_
                  refine lv_iload_n hx hb dX8_agree_84 rfl (lv_at hl 2 rfl) ?_
                  refine z_iadd hx hb dX8_agree_85 ?_
                  refine m_ald (d := 9) (j := 20 * (2 * a.toNat) + i) hx hb hK hW rfl (by omega) (show 20 * (2 * a.toNat) + i < 160 from by omega) dX8_agree_86 ?_
                  have r11 : (0 : Int) ≤ τ 9 (20 * (2 * a.toNat) + i) ∧ τ 9 (20 * (2 * a.toNat) + i) ≤ 20000 := hI 9 (20 * (2 * a.toNat) + i)
                  refine lv_aload_n hx hb dX8_agree_87 rfl (lv_at hl 3 rfl) ?_
                  refine z_iconst hx hb dX8_agree_88 ?_
                  refine lv_iload_n hx hb dX8_agree_89 rfl (lv_at hl 4 rfl) ?_
                  refine z_imul hx hb dX8_agree_90 ?_
                  refine z_iconst hx hb dX8_agree_91 ?_
                  refine z_iadd hx hb dX8_agree_92 ?_
                  refine lv_iload hx hb dX8_agree_93 (lv_at hl 1 rfl) ?_
                  refine m_call (n := 2) (As := [.int (iI ((2 * a) + 1)), .int (iI ((j : Int)))]) (rest := [.int (iI (τ 9 (20 * (2 * a.toNat) + i))), .int (iI (frO τ (2 * a.toNat) i)), .int (iI (sm (fun i => sm (fun j => agU τ a.toNat i j) M) i + sm (fun j => agU τ a.toNat i j) j))]) hx hb hml hts hown hK hW (c8_fromOf l D cI cZ ad τ hI ((2 * a.toNat) + 1) ((2 * a) + 1) (by omega) j (j : Int) (by omega) (by omega) (by omega)) gX8_agree_X8_fromOf rfl rfl rfl (by decide +kernel) ⟨by decide, by decide⟩ rfl hl.1 rfl (Nat.le_of_ble_eq_true rfl) ⟨Nat.zero_le _, Nat.zero_le _⟩ dX8_agree_95 ?_
                  have r12 := fr_r hI ((2 * a.toNat) + 1) j
                  refine lv_aload_n hx hb dX8_agree_98 rfl (lv_at hl 3 rfl) ?_
                  refine m_get hx hb hts hin8 hown hK hW 9 (by decide) (hts _ (by decide +kernel)) (v := .ref (ad 9)) rfl dX8_agree_99 ?_
                  refine z_bipush hx hb dX8_agree_102 (by decide) ?_
                  refine lv_iload_n hx hb dX8_agree_104 rfl (lv_at hl 4 rfl) ?_
                  refine z_imul hx hb dX8_agree_105 ?_
                  refine z_bipush hx hb dX8_agree_106 (by decide) ?_
                  refine z_iadd hx hb dX8_agree_108 ?_
                  refine lv_iload hx hb dX8_agree_109 (lv_at hl 1 rfl) ?_
                  refine z_iadd hx hb dX8_agree_111 ?_
                  refine m_ald (d := 9) (j := 20 * (2 * a.toNat + 1) + j) hx hb hK hW rfl (by omega) (show 20 * (2 * a.toNat + 1) + j < 160 from by omega) dX8_agree_112 ?_
                  have r13 : (0 : Int) ≤ τ 9 (20 * (2 * a.toNat + 1) + j) ∧ τ 9 (20 * (2 * a.toNat + 1) + j) ≤ 20000 := hI 9 (20 * (2 * a.toNat + 1) + j)
                  refine s_call (n := 4) (As := [.int (iI (frO τ (2 * a.toNat) i)), .int (iI (τ 9 (20 * (2 * a.toNat) + i))), .int (iI (frO τ ((2 * a.toNat) + 1) j)), .int (iI (τ 9 (20 * (2 * a.toNat + 1) + j)))]) (rest := [.int (iI (sm (fun i => sm (fun j => agU τ a.toNat i j) M) i + sm (fun j => agU τ a.toNat i j) j))]) hx hb hml hts hown (c8_common l (frO τ (2 * a.toNat) i) (by omega) (τ 9 (20 * (2 * a.toNat) + i)) (by omega) (frO τ ((2 * a.toNat) + 1) j) (by omega) (τ 9 (20 * (2 * a.toNat + 1) + j)) (by omega) (by omega)) gX8_agree_X8_common rfl rfl rfl (by decide +kernel) ⟨by decide, by decide⟩ rfl hl.1 rfl (Nat.le_of_ble_eq_true rfl) ⟨Nat.zero_le _, Nat.zero_le _⟩ dX8_agree_113 ?_
                  refine z_iadd hx hb dX8_agree_116 ?_
                  refine lv_istore_n (lv' := [(2, .int (iI ((sm (fun i => sm (fun j => agU τ a.toNat i j) M) i + sm (fun j => agU τ a.toNat i j) j) + (cm (frO τ (2 * a.toNat) i) (τ 9 (20 * (2 * a.toNat) + i)) (frO τ ((2 * a.toNat) + 1) j) (τ 9 (20 * (2 * a.toNat + 1) + j)))))), (4, .int (iI ((j : Int)))), (3, .int (iI ((i : Int)))), (0, .ref (ad 0)), (1, .int (iI (a)))]) hx hb dX8_agree_117 rfl hl (by decide) rfl (fun ls hl => ?_)
                  refine z_iinc (k := 1) (lv' := [(4, .int (iI ((j : Int) + 1))), (2, .int (iI ((sm (fun i => sm (fun j => agU τ a.toNat i j) M) i + sm (fun j => agU τ a.toNat i j) j) + (cm (frO τ (2 * a.toNat) i) (τ 9 (20 * (2 * a.toNat) + i)) (frO τ ((2 * a.toNat) + 1) j) (τ 9 (20 * (2 * a.toNat + 1) + j)))))), (3, .int (iI ((i : Int)))), (0, .ref (ad 0)), (1, .int (iI (a)))]) hx hb dX8_agree_118 hl rfl (by decide) rfl (fun ls hl => ?_)
                  refine lv_goto (tgt := 30) hx hb dX8_agree_121 (by decide) ?_
                  exact ih30 (j + 1) ((sm (fun i => sm (fun j => agU τ a.toNat i j) M) i + sm (fun j => agU τ a.toNat i j) j) + (cm (frO τ (2 * a.toNat) i) (τ 9 (20 * (2 * a.toNat) + i)) (frO τ ((2 * a.toNat) + 1) j) (τ 9 (20 * (2 * a.toNat + 1) + j)))) ((j : Int) + 1) (by rw [sm_s, ← Int.add_assoc]; (first | rw [ag_t (by omega)] | rw [ag_f (by omega), Int.add_zero])) (by omega) (by omega) (by omega)  ls (lv_sub hl [1, 0, 2, 3, 4] rfl)
          exact lp30 (M + 1) 0 (sm (fun i => sm (fun j => agU τ a.toNat i j) M) i) 0 (by simp [sm]) (by omega) (by omega) (by omega)  ls (lv_sub hl [1, 0, 2, 3, 4] rfl)
    exact lp15 (N + 1) 0 0 0 rfl (by omega) (by omega) (by omega)  ls (lv_sub hl [1, 0, 2, 3] rfl)
  · refine z_bipush hx hb dX8_agree_8 (by decide) ?_
    exact s_iret hx hb hr hlocks (by unfold spAgree; repeat (first | rw [if_pos (by first | assumption | omega)] | rw [if_neg (by first | assumption | omega | (intro hk; exact hk (by assumption)))])) dX8_agree_10
