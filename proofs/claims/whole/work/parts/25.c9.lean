theorem if_cg {α : Type} {P Q : Prop} [Decidable P] [Decidable Q] {x y : α} (h : P ↔ Q) : (if P then x else y) = (if Q then x else y) := by
  by_cases hp : P
  · rw [if_pos hp, if_pos (h.mp hp)]
  · rw [if_neg hp, if_neg (fun hq => hp (h.mpr hq))]
theorem apl_n {τ : Tau} {b : Nat} {k o f : Int} {c : Nat} (h : c < 19) : aplT τ b k o f c = τ c := by
  unfold aplT
  split
  · unfold adT
    rw [tu_n (by omega), tu_n (by omega), tu_n (by omega), tu_n (by omega)]
  · rfl
theorem aq_nP {D : va_G} {cT : Nat → ClassId} {ad : Adr} {τ ρ : Tau} {z b j : Nat} {k o : Int} {H H1 : Heap} (hp : nP D cT ad τ (adT τ b k o 0) ρ z H) (hj : (j : Int) < τ 12 0) (hO : OBJ D (ad 18 j) 6 [.int (iI (τ 13 j)), .int (iI (τ 14 j)), .int (iI (τ 15 j)), .int (iI (τ 16 j - 1))] H1) (hoq : ∀ q : Nat, q ≠ ad 18 j → H1[q]? = H[q]?) : nP D cT ad τ (qtT (adT τ b k o 0) j) ρ z H1 := by
  obtain ⟨ad2, hL, hN, hW⟩ := hp
  have hl : cLive τ 18 j := hj
  have e := hL 18 j hl
  have l2 : cLive (adT τ b k o 0) 18 j := hj
  have h1 := hW.put16 (i := j) (v := τ 16 j - 1) l2 (by rw [e]; exact hO) (fun q hq => hoq q (by rw [← e]; exact hq))
  have h2 := h1.free (c := 17) (i := 0) (v := τ 17 0 + 1) (Or.inl rfl)
  refine ⟨ad2, hL, fun k i h3 h4 => hN k i ?_ h4, h2⟩
  exact (live_tu (by decide) (by decide) (by decide) (by decide)).mp ((live_tu (by decide) (by decide) (by decide) (by decide)).mp h3)
theorem aq_put {τ : Tau} {b j : Nat} {x : Int} (hp : plO τ b x = -1) : aqO τ b j = if ¬ (¬ τ 16 j = 0 ∧ ¬ hrO τ b = true ∧ plO τ b x = -1) then -103 else if τ 19 b = 16 then -104 else τ 19 b := by
  unfold aqO aplO
  by_cases q1 : τ 16 j = 0
  · rw [if_pos q1, if_pos (fun h => h.1 q1)]
  · rw [if_neg q1]
    by_cases q2 : hrO τ b = true
    · rw [if_pos q2, if_pos (fun h => h.2.1 q2)]
    · rw [if_neg q2, if_neg (show ¬ ¬ (¬ τ 16 j = 0 ∧ ¬ hrO τ b = true ∧ plO τ b x = -1) from fun h => h ⟨q1, q2, hp⟩)]
theorem aq_twi {τ : Tau} {b j : Nat} : aqO τ b j = if ¬ (¬ τ 16 j = 0 ∧ ¬ hrO τ b = true) then -103 else if τ 19 b = 16 then -104 else τ 19 b := by
  unfold aqO aplO
  by_cases q1 : τ 16 j = 0
  · rw [if_pos q1, if_pos (fun h => h.1 q1)]
  · rw [if_neg q1]
    by_cases q2 : hrO τ b = true
    · rw [if_pos q2, if_pos (fun h => h.2 q2)]
    · rw [if_neg q2, if_neg (show ¬ ¬ (¬ τ 16 j = 0 ∧ ¬ hrO τ b = true) from fun h => h ⟨q1, q2⟩)]
theorem apl_lt {τ : Tau} {b : Nat} (hR : Rng τ) (h : aplO τ b < 0) : ¬ (¬ hrO τ b = true ∧ ¬ τ 19 b = 16) := fun q => by
  have h1 : (0 : Int) ≤ τ 19 b ∧ τ 19 b ≤ 16 := hR 19 b
  unfold aplO at h
  rw [if_neg q.1, if_neg q.2] at h
  omega
theorem apl_ge {τ : Tau} {b : Nat} (h : 0 ≤ aplO τ b) : ¬ hrO τ b = true ∧ ¬ τ 19 b = 16 := by
  unfold aplO at h
  refine ⟨fun q => ?_, fun q => ?_⟩
  · rw [if_pos q] at h
    omega
  · by_cases q2 : hrO τ b = true
    · rw [if_pos q2] at h
      omega
    · rw [if_neg q2, if_pos q] at h
      omega
theorem apl_r {τ : Tau} (hR : Rng τ) (b : Nat) : -104 ≤ aplO τ b ∧ aplO τ b ≤ 16 := by
  have h1 : (0 : Int) ≤ τ 19 b ∧ τ 19 b ≤ 16 := hR 19 b
  unfold aplO
  split
  · omega
  · split <;> omega
set_option maxHeartbeats 4000000 in
set_option maxRecDepth 100000 in
theorem c7_addPlaceWithQuarter (l : Launch) (D : va_G) (cT : Nat → ClassId) (ad : Adr) (τ ρ : Tau) (z : Nat) (hI : Inv τ) (hZ : Zer τ) (b : Nat) (hlb : (b : Int) < τ 18 0) (j : Nat) (hlj : (j : Int) < τ 12 0) (k : Int) (h_k : I32 k) (o : Int) (h_o : I32 o)  : Met l yX7_addPlaceWithQuarter wsX7_addPlaceWithQuarter { frames := 3, cells := 1, slots := 5, locals := 66 } (nPc D (cTy cT) EW (fun H => H.size = z ∧ CW D cT ad τ ρ H) [.ref (ad 19 b), .int (iI (k)), .int (iI (o)), .ref (ad 18 j)]) (nQ (some (.int (iI (aqO τ b j)))) (nA ad τ z) (nP D cT ad τ (aqT τ b j k o) ρ z)) 1 5 (nA ad τ z) := by
  refine n_start (by decide) rfl (Nat.le_of_ble_eq_true rfl) ?_
  intro p e s m below meth c hx hb hr hlocks hml hts hown hname hpre hK hE ls hl
  have hinX6 : ∀ w ∈ wsX60, w ∈ wsX7_addPlaceWithQuarter := by decide +kernel
  obtain ⟨hz, hW⟩ := hpre
  have hNW := hE.1
  have hR : Rng τ := hI.1
  have hlt : ∀ k i, cLive τ k i → ad k i < z := fun k i hl => by have := hW.lt hl; omega
  have hS : va_S (nA ad τ z) s.heap s.heap [] := va_S.rf
  have hl : lv_has ls 5 [(0, .ref (ad 19 b)), (1, .int (iI (k))), (2, .int (iI (o))), (3, .ref (ad 18 j))] := hl
  have hq19_b : (0 : Int) ≤ τ 19 b ∧ τ 19 b ≤ 16 := hI.1 19 b
  have hq16_j : (0 : Int) ≤ τ 16 j ∧ τ 16 j ≤ 4 := hI.1 16 j
  refine lv_aload_n hx hb dX7_addPlaceWithQuarter_0 rfl (lv_at hl 3 rfl) ?_
  refine y_get (C := RX6) (T := TX6) (N := 4) (ref := "CoreShed$Sample") (ci := 6) hx hb hts hinX6 hown hK (cw18 hW (i := j) (by omega)) rfl 3 (by decide) (hts _ (by decide +kernel)) rfl (v := .int (iI (τ 16 j))) rfl dX7_addPlaceWithQuarter_1 ?_
  have r1 : (0 : Int) ≤ τ 16 j ∧ τ 16 j ≤ 4 := hI.1 16 j
  refine z_if_ne (tgt := 10) hx hb (by omega) dX7_addPlaceWithQuarter_4 (by decide) (fun c2 => ?_) (fun c2 => ?_)
  · refine lv_aload_n hx hb dX7_addPlaceWithQuarter_10 rfl (lv_at hl 0 rfl) ?_
    refine lv_iload_n hx hb dX7_addPlaceWithQuarter_11 rfl (lv_at hl 1 rfl) ?_
    refine lv_iload_n hx hb dX7_addPlaceWithQuarter_12 rfl (lv_at hl 2 rfl) ?_
    refine z_iconst hx hb dX7_addPlaceWithQuarter_13 ?_
    refine n_scall (n := 4) (As := [.ref (ad 19 b), .int (iI (k)), .int (iI (o)), .int (iI (0))]) (rest := []) hx hb hml hts hown EW_mv hK hE ⟨hz, hW⟩ hS (fun q h => h) (c7_addPlace l D cT ad τ ρ z hI hZ b (by omega) k (by omega) o (by omega) 0 (by omega)) gX7_addPlaceWithQuarter_X7_addPlace rfl rfl rfl (by decide +kernel) ⟨by decide, by decide⟩ rfl hl.1 rfl (Nat.le_of_ble_eq_true rfl) ⟨(Nat.le_of_ble_eq_true rfl), (Nat.le_of_ble_eq_true rfl)⟩ dX7_addPlaceWithQuarter_14 (fun H locs hp hzz hk hS => ?_)
    have hC : OBJ D (ad 18 j) 6 [.int (iI (τ 13 j)), .int (iI (τ 14 j)), .int (iI (τ 15 j)), .int (iI (τ 16 j))] H := by
      obtain ⟨ad2, hL, hN, hW2⟩ := hp
      have h9 := cw18 hW2 (i := j) (by rw [apl_n (by decide)]; exact hlj)
      rw [hL 18 j hlj, apl_n (by decide), apl_n (by decide), apl_n (by decide), apl_n (by decide)] at h9
      exact h9
    have hap := apl_r hI.1 b
    refine lv_istore (lv' := [(4, .int (iI (aplO τ b))), (0, .ref (ad 19 b)), (1, .int (iI (k))), (2, .int (iI (o))), (3, .ref (ad 18 j))]) hx hb dX7_addPlaceWithQuarter_17 hl (by decide) rfl (fun ls hl => ?_)
    refine lv_iload hx hb dX7_addPlaceWithQuarter_19 (lv_at hl 0 rfl) ?_
    refine z_if_lt (tgt := 34) hx hb (by omega) dX7_addPlaceWithQuarter_21 (by decide) (fun c3 => ?_) (fun c3 => ?_)
    · refine lv_iload hx hb dX7_addPlaceWithQuarter_34 (lv_at hl 0 rfl) ?_
      exact n_iret hx hb hr hlocks (by have hg := apl_lt (b := b) hI.1 (by omega); unfold aplT at hp; rw [if_neg hg] at hp; unfold aqT; rw [if_neg (fun hk => hg hk.2)]; exact hp) hS (Nat.le_of_ble_eq_true rfl) (Nat.le_of_ble_eq_true rfl) (by unfold aqO; rw [if_neg (by omega)]) dX7_addPlaceWithQuarter_36
    · refine lv_aload_n hx hb dX7_addPlaceWithQuarter_24 rfl (lv_at hl 4 rfl) ?_
      refine lv_dup hx hb dX7_addPlaceWithQuarter_25 rfl ?_
      refine y_get (C := RX6) (T := TX6) (N := 4) (ref := "CoreShed$Sample") (ci := 6) hx hb hts hinX6 hown hK hC rfl 3 (by decide) (hts _ (by decide +kernel)) rfl (v := .int (iI (τ 16 j))) rfl dX7_addPlaceWithQuarter_26 ?_
      refine z_iconst hx hb dX7_addPlaceWithQuarter_29 ?_
      refine z_isub hx hb dX7_addPlaceWithQuarter_30 ?_
      refine y_put (C := RX6) (T := TX6) (N := 4) (ref := "CoreShed$Sample") (ci := 6) (v := .int (iI ((τ 16 j) - 1))) (ty := .int) hx hb hts hinX6 tyX6 tyX6_ok nmX6 hown hK hS hC (Or.inl ⟨18, j, hlj, rfl⟩) rfl 3 (by decide) (hts _ (by decide +kernel)) rfl rfl (by decide +kernel) rfl rfl (Nat.le_of_ble_eq_true rfl) dX7_addPlaceWithQuarter_31 (fun H locs hO hz1 hoq hS => ?_)
      refine lv_iload hx hb dX7_addPlaceWithQuarter_34 (lv_at hl 0 rfl) ?_
      exact n_iret hx hb hr hlocks (by have hg := apl_ge (b := b) (τ := τ) (by omega); unfold aplT at hp; rw [if_pos hg] at hp; unfold aqT; rw [if_pos ⟨by omega, hg⟩]; exact aq_nP hp hlj hO hoq) hS (Nat.le_of_ble_eq_true rfl) (Nat.le_of_ble_eq_true rfl) (by unfold aqO; rw [if_neg (by omega)]) dX7_addPlaceWithQuarter_36
  · refine z_bipush hx hb dX7_addPlaceWithQuarter_7 (by decide) ?_
    exact n_iret hx hb hr hlocks (by unfold aqT; rw [if_neg (fun hk => hk.1 (by omega))]; exact nP_rf hW) hS (Nat.le_of_ble_eq_true rfl) (Nat.le_of_ble_eq_true rfl) (by unfold aqO; rw [if_pos (by omega)]) dX7_addPlaceWithQuarter_9
set_option maxHeartbeats 4000000 in
set_option maxRecDepth 100000 in
theorem c7_put (l : Launch) (D : va_G) (cT : Nat → ClassId) (ad : Adr) (τ ρ : Tau) (z : Nat) (hI : Inv τ) (hZ : Zer τ) (a : Int) (h_a : I32 a) (x : Int) (h_x : I32 x)  : Met l yX7_put wsX7_put { frames := 4, cells := 1, slots := 5, locals := 90 } (nPc D (cTy cT) EW (fun H => H.size = z ∧ CW D cT ad τ ρ H) [.ref (ad 0 0), .int (iI (a)), .int (iI (x))]) (nQ (some (.int (iI (spPut τ a x)))) (nA ad τ z) (nP D cT ad τ (stPut τ a x) ρ z)) 1 5 (nA ad τ z) := by
  refine n_start (by decide) rfl (Nat.le_of_ble_eq_true rfl) ?_
  intro p e s m below meth c hx hb hr hlocks hml hts hown hname hpre hK hE ls hl
  obtain ⟨hz, hW⟩ := hpre
  have hNW := hE.1
  have hR : Rng τ := hI.1
  have hlt : ∀ k i, cLive τ k i → ad k i < z := fun k i hl => by have := hW.lt hl; omega
  have hS : va_S (nA ad τ z) s.heap s.heap [] := va_S.rf
  have hl : lv_has ls 5 [(0, .ref (ad 0 0)), (1, .int (iI (a))), (2, .int (iI (x)))] := hl
  have hq18_0 : (0 : Int) ≤ τ 18 0 ∧ τ 18 0 ≤ 6 := hI.1 18 0
  have hq12_0 : (0 : Int) ≤ τ 12 0 ∧ τ 12 0 ≤ 30 := hI.1 12 0
  by_cases hh : 0 ≤ a ∧ a < τ 18 0
  · by_cases hh2 : 0 ≤ x ∧ x < τ 12 0
    · refine lv_aload_n hx hb dX7_put_0 rfl (lv_at hl 0 rfl) ?_
      refine lv_iload_n hx hb dX7_put_1 rfl (lv_at hl 1 rfl) ?_
      refine c_callR (n := 1) (As := [.int (iI (a))]) (rest := []) hx hb hml hts hown hK hNW hW (va_recv hK (cw0 hW) (ci := 7) (q0 := 0) rfl rfl) (c7_batchNamed_some l D cT ad τ ρ hI.1 a.toNat a (by omega) (by omega)) gX7_put_X7_batchNamed rfl rfl rfl (by decide +kernel) ⟨by decide, by decide⟩ rfl hl.1 rfl (Nat.le_of_ble_eq_true rfl) ⟨Nat.zero_le _, Nat.zero_le _⟩ dX7_put_2 ?_
      refine lv_astore_n (lv' := [(3, .ref (ad 19 a.toNat)), (0, .ref (ad 0 0)), (1, .int (iI (a))), (2, .int (iI (x)))]) hx hb dX7_put_5 rfl hl (by decide) rfl (fun ls hl => ?_)
      refine lv_aload_n hx hb dX7_put_6 rfl (lv_at hl 1 rfl) ?_
      refine lv_iload_n hx hb dX7_put_7 rfl (lv_at hl 3 rfl) ?_
      refine c_callR (n := 1) (As := [.int (iI (x))]) (rest := []) hx hb hml hts hown hK hNW hW (va_recv hK (cw0 hW) (ci := 7) (q0 := 0) rfl rfl) (c7_sampleNamed_some l D cT ad τ ρ hI.1 x.toNat x (by omega) (by omega)) gX7_put_X7_sampleNamed rfl rfl rfl (by decide +kernel) ⟨by decide, by decide⟩ rfl hl.1 rfl (Nat.le_of_ble_eq_true rfl) ⟨Nat.zero_le _, Nat.zero_le _⟩ dX7_put_8 ?_
      refine lv_astore (lv' := [(4, .ref (ad 18 x.toNat)), (3, .ref (ad 19 a.toNat)), (0, .ref (ad 0 0)), (1, .int (iI (a))), (2, .int (iI (x)))]) hx hb dX7_put_11 hl (by decide) rfl (fun ls hl => ?_)
      refine lv_aload_n hx hb dX7_put_13 rfl (lv_at hl 1 rfl) ?_
      refine lv_ifnull hx hb dX7_put_14 ?_
      refine lv_aload hx hb dX7_put_17 (lv_at hl 0 rfl) ?_
      refine lv_ifnonnull (tgt := 25) hx hb dX7_put_19 (by decide) ?_
      by_cases hpl : plO τ a.toNat x = -1
      · refine lv_aload_n hx hb dX7_put_25 rfl (lv_at hl 1 rfl) ?_
        refine lv_iload_n hx hb dX7_put_26 rfl (lv_at hl 4 rfl) ?_
        refine c_callR (n := 1) (As := [.int (iI (x))]) (rest := []) hx hb hml hts hown hK hNW hW (va_recv hK (cw19 hW (i := a.toNat) (by omega)) (ci := 0) (q0 := 0) rfl rfl) (c0_placeOf_none l D cT ad τ ρ hI.1 a.toNat (by omega) x (by omega) (by omega)) gX7_put_X0_placeOf rfl rfl rfl (by decide +kernel) ⟨by decide, by decide⟩ rfl hl.1 rfl (Nat.le_of_ble_eq_true rfl) ⟨Nat.zero_le _, Nat.zero_le _⟩ dX7_put_27 ?_
        refine lv_ifnullN (tgt := 36) hx hb dX7_put_30 (by decide) ?_
        refine lv_aload_n hx hb dX7_put_36 rfl (lv_at hl 1 rfl) ?_
        refine z_iconst hx hb dX7_put_37 ?_
        refine lv_iload_n hx hb dX7_put_38 rfl (lv_at hl 4 rfl) ?_
        refine lv_aload hx hb dX7_put_39 (lv_at hl 0 rfl) ?_
        refine n_scall (n := 4) (As := [.ref (ad 19 a.toNat), .int (iI (0)), .int (iI (x)), .ref (ad 18 x.toNat)]) (rest := []) hx hb hml hts hown EW_mv hK hE ⟨hz, hW⟩ hS (fun q h => h) (c7_addPlaceWithQuarter l D cT ad τ ρ z hI hZ a.toNat (by omega) x.toNat (by omega) 0 (by omega) x (by omega)) gX7_put_X7_addPlaceWithQuarter rfl rfl rfl (by decide +kernel) ⟨by decide, by decide⟩ rfl hl.1 rfl (Nat.le_of_ble_eq_true rfl) ⟨(Nat.le_of_ble_eq_true rfl), (Nat.le_of_ble_eq_true rfl)⟩ dX7_put_41 (fun H locs hp hzz hk hS => ?_)
        exact n_iret hx hb hr hlocks (by have e9 : stPut τ a x = aqT τ a.toNat x.toNat 0 x := if_cg ⟨fun h => ⟨h.2.1.1, h.2.1.2.1, h.2.2⟩, fun h => ⟨⟨hh, hh2⟩, ⟨h.1, h.2.1, hpl⟩, h.2.2⟩⟩; rw [e9]; exact hp) hS (Nat.le_of_ble_eq_true rfl) (Nat.le_of_ble_eq_true rfl) (by unfold spPut; rw [if_neg (by omega)]; exact aq_put hpl) dX7_put_44
      · refine lv_aload_n hx hb dX7_put_25 rfl (lv_at hl 1 rfl) ?_
        refine lv_iload_n hx hb dX7_put_26 rfl (lv_at hl 4 rfl) ?_
        refine c_callR (n := 1) (As := [.int (iI (x))]) (rest := []) hx hb hml hts hown hK hNW hW (va_recv hK (cw19 hW (i := a.toNat) (by omega)) (ci := 0) (q0 := 0) rfl rfl) (c0_placeOf_some l D cT ad τ ρ hI.1 a.toNat (by omega) x (by omega) (by omega)) gX7_put_X0_placeOf rfl rfl rfl (by decide +kernel) ⟨by decide, by decide⟩ rfl hl.1 rfl (Nat.le_of_ble_eq_true rfl) ⟨Nat.zero_le _, Nat.zero_le _⟩ dX7_put_27 ?_
        refine lv_ifnull hx hb dX7_put_30 ?_
        refine z_bipush hx hb dX7_put_33 (by decide) ?_
        exact n_iret hx hb hr hlocks (by unfold stPut; rw [if_neg (fun hk => hpl hk.2.1.2.2)]; exact nP_rf hW) hS (Nat.le_of_ble_eq_true rfl) (Nat.le_of_ble_eq_true rfl) (by unfold spPut; rw [if_neg (by omega), if_pos (fun hk => hpl hk.2.2)]) dX7_put_35
    · refine lv_aload_n hx hb dX7_put_0 rfl (lv_at hl 0 rfl) ?_
      refine lv_iload_n hx hb dX7_put_1 rfl (lv_at hl 1 rfl) ?_
      refine c_callR (n := 1) (As := [.int (iI (a))]) (rest := []) hx hb hml hts hown hK hNW hW (va_recv hK (cw0 hW) (ci := 7) (q0 := 0) rfl rfl) (c7_batchNamed_some l D cT ad τ ρ hI.1 a.toNat a (by omega) (by omega)) gX7_put_X7_batchNamed rfl rfl rfl (by decide +kernel) ⟨by decide, by decide⟩ rfl hl.1 rfl (Nat.le_of_ble_eq_true rfl) ⟨Nat.zero_le _, Nat.zero_le _⟩ dX7_put_2 ?_
      refine lv_astore_n (lv' := [(3, .ref (ad 19 a.toNat)), (0, .ref (ad 0 0)), (1, .int (iI (a))), (2, .int (iI (x)))]) hx hb dX7_put_5 rfl hl (by decide) rfl (fun ls hl => ?_)
      refine lv_aload_n hx hb dX7_put_6 rfl (lv_at hl 1 rfl) ?_
      refine lv_iload_n hx hb dX7_put_7 rfl (lv_at hl 3 rfl) ?_
      refine c_callR (n := 1) (As := [.int (iI (x))]) (rest := []) hx hb hml hts hown hK hNW hW (va_recv hK (cw0 hW) (ci := 7) (q0 := 0) rfl rfl) (c7_sampleNamed_none l D cT ad τ ρ hI.1 x (by omega) (by omega)) gX7_put_X7_sampleNamed rfl rfl rfl (by decide +kernel) ⟨by decide, by decide⟩ rfl hl.1 rfl (Nat.le_of_ble_eq_true rfl) ⟨Nat.zero_le _, Nat.zero_le _⟩ dX7_put_8 ?_
      refine lv_astoreN (lv' := [(4, .null), (3, .ref (ad 19 a.toNat)), (0, .ref (ad 0 0)), (1, .int (iI (a))), (2, .int (iI (x)))]) hx hb dX7_put_11 hl (by decide) rfl (fun ls hl => ?_)
      refine lv_aload_n hx hb dX7_put_13 rfl (lv_at hl 1 rfl) ?_
      refine lv_ifnull hx hb dX7_put_14 ?_
      refine lv_aloadN hx hb dX7_put_17 (lv_at hl 0 rfl) ?_
      refine lv_ifnonnullN hx hb dX7_put_19 ?_
      refine z_bipush hx hb dX7_put_22 (by decide) ?_
      exact n_iret hx hb hr hlocks (by unfold stPut; rw [if_neg (fun hk => by first | omega | exact hk.1 (by assumption) | exact hk.2.1 (by assumption) | exact hk.2.2.1 (by assumption) | exact hk.2.2.2.1 (by assumption) | exact hk.2.2.2 (by assumption) | exact hk.2.2.2.2 (by assumption))]; exact nP_rf hW) hS (Nat.le_of_ble_eq_true rfl) (Nat.le_of_ble_eq_true rfl) (by unfold spPut; repeat (first | rw [if_pos (by first | assumption | omega)] | rw [if_neg (by first | assumption | omega | (intro hk; exact hk (by assumption)))])) dX7_put_24
  · by_cases hh2 : 0 ≤ x ∧ x < τ 12 0
    · refine lv_aload_n hx hb dX7_put_0 rfl (lv_at hl 0 rfl) ?_
      refine lv_iload_n hx hb dX7_put_1 rfl (lv_at hl 1 rfl) ?_
      refine c_callR (n := 1) (As := [.int (iI (a))]) (rest := []) hx hb hml hts hown hK hNW hW (va_recv hK (cw0 hW) (ci := 7) (q0 := 0) rfl rfl) (c7_batchNamed_none l D cT ad τ ρ hI.1 a (by omega) (by omega)) gX7_put_X7_batchNamed rfl rfl rfl (by decide +kernel) ⟨by decide, by decide⟩ rfl hl.1 rfl (Nat.le_of_ble_eq_true rfl) ⟨Nat.zero_le _, Nat.zero_le _⟩ dX7_put_2 ?_
      refine lv_astore_nN (lv' := [(3, .null), (0, .ref (ad 0 0)), (1, .int (iI (a))), (2, .int (iI (x)))]) hx hb dX7_put_5 rfl hl (by decide) rfl (fun ls hl => ?_)
      refine lv_aload_n hx hb dX7_put_6 rfl (lv_at hl 1 rfl) ?_
      refine lv_iload_n hx hb dX7_put_7 rfl (lv_at hl 3 rfl) ?_
      refine c_callR (n := 1) (As := [.int (iI (x))]) (rest := []) hx hb hml hts hown hK hNW hW (va_recv hK (cw0 hW) (ci := 7) (q0 := 0) rfl rfl) (c7_sampleNamed_some l D cT ad τ ρ hI.1 x.toNat x (by omega) (by omega)) gX7_put_X7_sampleNamed rfl rfl rfl (by decide +kernel) ⟨by decide, by decide⟩ rfl hl.1 rfl (Nat.le_of_ble_eq_true rfl) ⟨Nat.zero_le _, Nat.zero_le _⟩ dX7_put_8 ?_
      refine lv_astore (lv' := [(4, .ref (ad 18 x.toNat)), (3, .null), (0, .ref (ad 0 0)), (1, .int (iI (a))), (2, .int (iI (x)))]) hx hb dX7_put_11 hl (by decide) rfl (fun ls hl => ?_)
      refine lv_aload_nN hx hb dX7_put_13 rfl (lv_at hl 1 rfl) ?_
      refine lv_ifnullN (tgt := 22) hx hb dX7_put_14 (by decide) ?_
      refine z_bipush hx hb dX7_put_22 (by decide) ?_
      exact n_iret hx hb hr hlocks (by unfold stPut; rw [if_neg (fun hk => by first | omega | exact hk.1 (by assumption) | exact hk.2.1 (by assumption) | exact hk.2.2.1 (by assumption) | exact hk.2.2.2.1 (by assumption) | exact hk.2.2.2 (by assumption) | exact hk.2.2.2.2 (by assumption))]; exact nP_rf hW) hS (Nat.le_of_ble_eq_true rfl) (Nat.le_of_ble_eq_true rfl) (by unfold spPut; repeat (first | rw [if_pos (by first | assumption | omega)] | rw [if_neg (by first | assumption | omega | (intro hk; exact hk (by assumption)))])) dX7_put_24
    · refine lv_aload_n hx hb dX7_put_0 rfl (lv_at hl 0 rfl) ?_
      refine lv_iload_n hx hb dX7_put_1 rfl (lv_at hl 1 rfl) ?_
      refine c_callR (n := 1) (As := [.int (iI (a))]) (rest := []) hx hb hml hts hown hK hNW hW (va_recv hK (cw0 hW) (ci := 7) (q0 := 0) rfl rfl) (c7_batchNamed_none l D cT ad τ ρ hI.1 a (by omega) (by omega)) gX7_put_X7_batchNamed rfl rfl rfl (by decide +kernel) ⟨by decide, by decide⟩ rfl hl.1 rfl (Nat.le_of_ble_eq_true rfl) ⟨Nat.zero_le _, Nat.zero_le _⟩ dX7_put_2 ?_
      refine lv_astore_nN (lv' := [(3, .null), (0, .ref (ad 0 0)), (1, .int (iI (a))), (2, .int (iI (x)))]) hx hb dX7_put_5 rfl hl (by decide) rfl (fun ls hl => ?_)
      refine lv_aload_n hx hb dX7_put_6 rfl (lv_at hl 1 rfl) ?_
      refine lv_iload_n hx hb dX7_put_7 rfl (lv_at hl 3 rfl) ?_
      refine c_callR (n := 1) (As := [.int (iI (x))]) (rest := []) hx hb hml hts hown hK hNW hW (va_recv hK (cw0 hW) (ci := 7) (q0 := 0) rfl rfl) (c7_sampleNamed_none l D cT ad τ ρ hI.1 x (by omega) (by omega)) gX7_put_X7_sampleNamed rfl rfl rfl (by decide +kernel) ⟨by decide, by decide⟩ rfl hl.1 rfl (Nat.le_of_ble_eq_true rfl) ⟨Nat.zero_le _, Nat.zero_le _⟩ dX7_put_8 ?_
      refine lv_astoreN (lv' := [(4, .null), (3, .null), (0, .ref (ad 0 0)), (1, .int (iI (a))), (2, .int (iI (x)))]) hx hb dX7_put_11 hl (by decide) rfl (fun ls hl => ?_)
      refine lv_aload_nN hx hb dX7_put_13 rfl (lv_at hl 1 rfl) ?_
      refine lv_ifnullN (tgt := 22) hx hb dX7_put_14 (by decide) ?_
      refine z_bipush hx hb dX7_put_22 (by decide) ?_
      exact n_iret hx hb hr hlocks (by unfold stPut; rw [if_neg (fun hk => by first | omega | exact hk.1 (by assumption) | exact hk.2.1 (by assumption) | exact hk.2.2.1 (by assumption) | exact hk.2.2.2.1 (by assumption) | exact hk.2.2.2 (by assumption) | exact hk.2.2.2.2 (by assumption))]; exact nP_rf hW) hS (Nat.le_of_ble_eq_true rfl) (Nat.le_of_ble_eq_true rfl) (by unfold spPut; repeat (first | rw [if_pos (by first | assumption | omega)] | rw [if_neg (by first | assumption | omega | (intro hk; exact hk (by assumption)))])) dX7_put_24
set_option maxHeartbeats 4000000 in
set_option maxRecDepth 100000 in
theorem c7_standard (l : Launch) (D : va_G) (cT : Nat → ClassId) (ad : Adr) (τ ρ : Tau) (z : Nat) (hI : Inv τ) (hZ : Zer τ) (a : Int) (h_a : I32 a) (u : Int) (h_u : I32 u) (v : Int) (h_v : I32 v)  : Met l yX7_standard wsX7_standard { frames := 3, cells := 1, slots := 5, locals := 66 } (nPc D (cTy cT) EW (fun H => H.size = z ∧ CW D cT ad τ ρ H) [.ref (ad 0 0), .int (iI (a)), .int (iI (u)), .int (iI (v))]) (nQ (some (.int (iI (spStd τ a u v)))) (nA ad τ z) (nP D cT ad τ (stStd τ a u v) ρ z)) 1 5 (nA ad τ z) := by
  refine n_start (by decide) rfl (Nat.le_of_ble_eq_true rfl) ?_
  intro p e s m below meth c hx hb hr hlocks hml hts hown hname hpre hK hE ls hl
  obtain ⟨hz, hW⟩ := hpre
  have hNW := hE.1
  have hR : Rng τ := hI.1
  have hlt : ∀ k i, cLive τ k i → ad k i < z := fun k i hl => by have := hW.lt hl; omega
  have hS : va_S (nA ad τ z) s.heap s.heap [] := va_S.rf
  have hl : lv_has ls 5 [(0, .ref (ad 0 0)), (1, .int (iI (a))), (2, .int (iI (u))), (3, .int (iI (v)))] := hl
  have hq18_0 : (0 : Int) ≤ τ 18 0 ∧ τ 18 0 ≤ 6 := hI.1 18 0
  by_cases hh : 0 ≤ a ∧ a < τ 18 0
  · refine lv_aload_n hx hb dX7_standard_0 rfl (lv_at hl 0 rfl) ?_
    refine lv_iload_n hx hb dX7_standard_1 rfl (lv_at hl 1 rfl) ?_
    refine c_callR (n := 1) (As := [.int (iI (a))]) (rest := []) hx hb hml hts hown hK hNW hW (va_recv hK (cw0 hW) (ci := 7) (q0 := 0) rfl rfl) (c7_batchNamed_some l D cT ad τ ρ hI.1 a.toNat a (by omega) (by omega)) gX7_standard_X7_batchNamed rfl rfl rfl (by decide +kernel) ⟨by decide, by decide⟩ rfl hl.1 rfl (Nat.le_of_ble_eq_true rfl) ⟨Nat.zero_le _, Nat.zero_le _⟩ dX7_standard_2 ?_
    refine lv_astore (lv' := [(4, .ref (ad 19 a.toNat)), (0, .ref (ad 0 0)), (1, .int (iI (a))), (2, .int (iI (u))), (3, .int (iI (v)))]) hx hb dX7_standard_5 hl (by decide) rfl (fun ls hl => ?_)
    refine lv_aload hx hb dX7_standard_7 (lv_at hl 0 rfl) ?_
    refine lv_ifnonnull (tgt := 15) hx hb dX7_standard_9 (by decide) ?_
    refine lv_iload_n hx hb dX7_standard_15 rfl (lv_at hl 3 rfl) ?_
    refine z_iconst hx hb dX7_standard_16 ?_
    refine z_ldc (n := 100000) hx hb hown (hts (.constant RX7 90 (100000)) (by decide +kernel)) (by decide) dX7_standard_17 ?_
    refine s_call (n := 3) (As := [.int (iI (u)), .int (iI (0)), .int (iI (100000))]) (rest := []) hx hb hml hts hown (c7_isWithin l u (by omega) 0 (by omega) 100000 (by omega)) gX7_standard_X7_isWithin rfl rfl rfl (by decide +kernel) ⟨by decide, by decide⟩ rfl hl.1 rfl (Nat.le_of_ble_eq_true rfl) ⟨Nat.zero_le _, Nat.zero_le _⟩ dX7_standard_19 ?_
    refine z_if_eqB (tgt := 36) hx hb dX7_standard_22 (by decide) (fun c1 => ?_) (fun c1 => ?_)
    · refine z_bipush hx hb dX7_standard_36 (by decide) ?_
      exact n_iret hx hb hr hlocks (by unfold stStd; rw [if_neg (fun hk => by first | omega | exact hk.1 (by assumption) | exact hk.2.1 (by assumption) | exact hk.2.2.1 (by assumption) | exact hk.2.2.2.1 (by assumption) | exact hk.2.2.2 (by assumption) | exact hk.2.2.2.2 (by assumption))]; exact nP_rf hW) hS (Nat.le_of_ble_eq_true rfl) (Nat.le_of_ble_eq_true rfl) (by unfold spStd; repeat (first | rw [if_pos (by first | assumption | omega)] | rw [if_neg (by first | assumption | omega | (intro hk; exact hk (by assumption)))])) dX7_standard_38
    · refine lv_iload_n hx hb dX7_standard_25 rfl (lv_at hl 4 rfl) ?_
      refine z_iconst hx hb dX7_standard_26 ?_
      refine z_sipush hx hb dX7_standard_27 (by decide) ?_
      refine s_call (n := 3) (As := [.int (iI (v)), .int (iI (0)), .int (iI (10000))]) (rest := []) hx hb hml hts hown (c7_isWithin l v (by omega) 0 (by omega) 10000 (by omega)) gX7_standard_X7_isWithin rfl rfl rfl (by decide +kernel) ⟨by decide, by decide⟩ rfl hl.1 rfl (Nat.le_of_ble_eq_true rfl) ⟨Nat.zero_le _, Nat.zero_le _⟩ dX7_standard_30 ?_
      refine z_if_neB (tgt := 39) hx hb dX7_standard_33 (by decide) (fun c2 => ?_) (fun c2 => ?_)
      · refine lv_aload hx hb dX7_standard_39 (lv_at hl 0 rfl) ?_
        refine z_iconst hx hb dX7_standard_41 ?_
        refine lv_iload_n hx hb dX7_standard_42 rfl (lv_at hl 3 rfl) ?_
        refine lv_iload_n hx hb dX7_standard_43 rfl (lv_at hl 4 rfl) ?_
        refine n_scall (n := 4) (As := [.ref (ad 19 a.toNat), .int (iI (1)), .int (iI (u)), .int (iI (v))]) (rest := []) hx hb hml hts hown EW_mv hK hE ⟨hz, hW⟩ hS (fun q h => h) (c7_addPlace l D cT ad τ ρ z hI hZ a.toNat (by omega) 1 (by omega) u (by omega) v (by omega)) gX7_standard_X7_addPlace rfl rfl rfl (by decide +kernel) ⟨by decide, by decide⟩ rfl hl.1 rfl (Nat.le_of_ble_eq_true rfl) ⟨(Nat.le_of_ble_eq_true rfl), (Nat.le_of_ble_eq_true rfl)⟩ dX7_standard_44 (fun H locs hp hzz hk hS => ?_)
        exact n_iret hx hb hr hlocks (by have e9 : stStd τ a u v = aplT τ a.toNat 1 u v := if_cg ⟨fun h => h.2.2, fun h => ⟨hh, ⟨by omega, by omega⟩, h⟩⟩; rw [e9]; exact hp) hS (Nat.le_of_ble_eq_true rfl) (Nat.le_of_ble_eq_true rfl) (by unfold spStd; rw [if_neg (by omega), if_neg (by omega)]; rfl) dX7_standard_47
      · refine z_bipush hx hb dX7_standard_36 (by decide) ?_
        exact n_iret hx hb hr hlocks (by unfold stStd; rw [if_neg (fun hk => by first | omega | exact hk.1 (by assumption) | exact hk.2.1 (by assumption) | exact hk.2.2.1 (by assumption) | exact hk.2.2.2.1 (by assumption) | exact hk.2.2.2 (by assumption) | exact hk.2.2.2.2 (by assumption))]; exact nP_rf hW) hS (Nat.le_of_ble_eq_true rfl) (Nat.le_of_ble_eq_true rfl) (by unfold spStd; repeat (first | rw [if_pos (by first | assumption | omega)] | rw [if_neg (by first | assumption | omega | (intro hk; exact hk (by assumption)))])) dX7_standard_38
  · refine lv_aload_n hx hb dX7_standard_0 rfl (lv_at hl 0 rfl) ?_
    refine lv_iload_n hx hb dX7_standard_1 rfl (lv_at hl 1 rfl) ?_
    refine c_callR (n := 1) (As := [.int (iI (a))]) (rest := []) hx hb hml hts hown hK hNW hW (va_recv hK (cw0 hW) (ci := 7) (q0 := 0) rfl rfl) (c7_batchNamed_none l D cT ad τ ρ hI.1 a (by omega) (by omega)) gX7_standard_X7_batchNamed rfl rfl rfl (by decide +kernel) ⟨by decide, by decide⟩ rfl hl.1 rfl (Nat.le_of_ble_eq_true rfl) ⟨Nat.zero_le _, Nat.zero_le _⟩ dX7_standard_2 ?_
    refine lv_astoreN (lv' := [(4, .null), (0, .ref (ad 0 0)), (1, .int (iI (a))), (2, .int (iI (u))), (3, .int (iI (v)))]) hx hb dX7_standard_5 hl (by decide) rfl (fun ls hl => ?_)
    refine lv_aloadN hx hb dX7_standard_7 (lv_at hl 0 rfl) ?_
    refine lv_ifnonnullN hx hb dX7_standard_9 ?_
    refine z_bipush hx hb dX7_standard_12 (by decide) ?_
    exact n_iret hx hb hr hlocks (by unfold stStd; rw [if_neg (fun hk => by first | omega | exact hk.1 (by assumption) | exact hk.2.1 (by assumption) | exact hk.2.2.1 (by assumption) | exact hk.2.2.2.1 (by assumption) | exact hk.2.2.2 (by assumption) | exact hk.2.2.2.2 (by assumption))]; exact nP_rf hW) hS (Nat.le_of_ble_eq_true rfl) (Nat.le_of_ble_eq_true rfl) (by unfold spStd; repeat (first | rw [if_pos (by first | assumption | omega)] | rw [if_neg (by first | assumption | omega | (intro hk; exact hk (by assumption)))])) dX7_standard_14
set_option maxHeartbeats 4000000 in
set_option maxRecDepth 100000 in
theorem c7_blank (l : Launch) (D : va_G) (cT : Nat → ClassId) (ad : Adr) (τ ρ : Tau) (z : Nat) (hI : Inv τ) (hZ : Zer τ) (a : Int) (h_a : I32 a)  : Met l yX7_blank wsX7_blank { frames := 3, cells := 1, slots := 5, locals := 66 } (nPc D (cTy cT) EW (fun H => H.size = z ∧ CW D cT ad τ ρ H) [.ref (ad 0 0), .int (iI (a))]) (nQ (some (.int (iI (spBlank τ a)))) (nA ad τ z) (nP D cT ad τ (stBlank τ a) ρ z)) 1 5 (nA ad τ z) := by
  refine n_start (by decide) rfl (Nat.le_of_ble_eq_true rfl) ?_
  intro p e s m below meth c hx hb hr hlocks hml hts hown hname hpre hK hE ls hl
  obtain ⟨hz, hW⟩ := hpre
  have hNW := hE.1
  have hR : Rng τ := hI.1
  have hlt : ∀ k i, cLive τ k i → ad k i < z := fun k i hl => by have := hW.lt hl; omega
  have hS : va_S (nA ad τ z) s.heap s.heap [] := va_S.rf
  have hl : lv_has ls 3 [(0, .ref (ad 0 0)), (1, .int (iI (a)))] := hl
  have hq18_0 : (0 : Int) ≤ τ 18 0 ∧ τ 18 0 ≤ 6 := hI.1 18 0
  by_cases hh : 0 ≤ a ∧ a < τ 18 0
  · refine lv_aload_n hx hb dX7_blank_0 rfl (lv_at hl 0 rfl) ?_
    refine lv_iload_n hx hb dX7_blank_1 rfl (lv_at hl 1 rfl) ?_
    refine c_callR (n := 1) (As := [.int (iI (a))]) (rest := []) hx hb hml hts hown hK hNW hW (va_recv hK (cw0 hW) (ci := 7) (q0 := 0) rfl rfl) (c7_batchNamed_some l D cT ad τ ρ hI.1 a.toNat a (by omega) (by omega)) gX7_blank_X7_batchNamed rfl rfl rfl (by decide +kernel) ⟨by decide, by decide⟩ rfl hl.1 rfl (Nat.le_of_ble_eq_true rfl) ⟨Nat.zero_le _, Nat.zero_le _⟩ dX7_blank_2 ?_
    refine lv_astore_n (lv' := [(2, .ref (ad 19 a.toNat)), (0, .ref (ad 0 0)), (1, .int (iI (a)))]) hx hb dX7_blank_5 rfl hl (by decide) rfl (fun ls hl => ?_)
    refine lv_aload_n hx hb dX7_blank_6 rfl (lv_at hl 0 rfl) ?_
    refine lv_ifnonnull (tgt := 15) hx hb dX7_blank_7 (by decide) ?_
    refine lv_aload_n hx hb dX7_blank_15 rfl (lv_at hl 0 rfl) ?_
    refine z_iconst hx hb dX7_blank_16 ?_
    refine z_iconst hx hb dX7_blank_17 ?_
    refine z_iconst hx hb dX7_blank_18 ?_
    refine n_scall (n := 4) (As := [.ref (ad 19 a.toNat), .int (iI (2)), .int (iI (0)), .int (iI (0))]) (rest := []) hx hb hml hts hown EW_mv hK hE ⟨hz, hW⟩ hS (fun q h => h) (c7_addPlace l D cT ad τ ρ z hI hZ a.toNat (by omega) 2 (by omega) 0 (by omega) 0 (by omega)) gX7_blank_X7_addPlace rfl rfl rfl (by decide +kernel) ⟨by decide, by decide⟩ rfl hl.1 rfl (Nat.le_of_ble_eq_true rfl) ⟨(Nat.le_of_ble_eq_true rfl), (Nat.le_of_ble_eq_true rfl)⟩ dX7_blank_19 (fun H locs hp hzz hk hS => ?_)
    exact n_iret hx hb hr hlocks (by have e9 : stBlank τ a = aplT τ a.toNat 2 0 0 := if_cg ⟨fun h => h.2, fun h => ⟨hh, h⟩⟩; rw [e9]; exact hp) hS (Nat.le_of_ble_eq_true rfl) (Nat.le_of_ble_eq_true rfl) (by unfold spBlank; rw [if_neg (by omega)]; rfl) dX7_blank_22
  · refine lv_aload_n hx hb dX7_blank_0 rfl (lv_at hl 0 rfl) ?_
    refine lv_iload_n hx hb dX7_blank_1 rfl (lv_at hl 1 rfl) ?_
    refine c_callR (n := 1) (As := [.int (iI (a))]) (rest := []) hx hb hml hts hown hK hNW hW (va_recv hK (cw0 hW) (ci := 7) (q0 := 0) rfl rfl) (c7_batchNamed_none l D cT ad τ ρ hI.1 a (by omega) (by omega)) gX7_blank_X7_batchNamed rfl rfl rfl (by decide +kernel) ⟨by decide, by decide⟩ rfl hl.1 rfl (Nat.le_of_ble_eq_true rfl) ⟨Nat.zero_le _, Nat.zero_le _⟩ dX7_blank_2 ?_
    refine lv_astore_nN (lv' := [(2, .null), (0, .ref (ad 0 0)), (1, .int (iI (a)))]) hx hb dX7_blank_5 rfl hl (by decide) rfl (fun ls hl => ?_)
    refine lv_aload_nN hx hb dX7_blank_6 rfl (lv_at hl 0 rfl) ?_
    refine lv_ifnonnullN hx hb dX7_blank_7 ?_
    refine z_bipush hx hb dX7_blank_10 (by decide) ?_
    refine lv_goto (tgt := 22) hx hb dX7_blank_12 (by decide) ?_
    exact n_iret hx hb hr hlocks (by unfold stBlank; rw [if_neg (fun hk => by first | omega | exact hk.1 (by assumption) | exact hk.2.1 (by assumption) | exact hk.2.2.1 (by assumption) | exact hk.2.2.2.1 (by assumption) | exact hk.2.2.2 (by assumption) | exact hk.2.2.2.2 (by assumption))]; exact nP_rf hW) hS (Nat.le_of_ble_eq_true rfl) (Nat.le_of_ble_eq_true rfl) (by unfold spBlank; repeat (first | rw [if_pos (by first | assumption | omega)] | rw [if_neg (by first | assumption | omega | (intro hk; exact hk (by assumption)))])) dX7_blank_22
set_option maxHeartbeats 4000000 in
set_option maxRecDepth 100000 in
theorem c7_twice (l : Launch) (D : va_G) (cT : Nat → ClassId) (ad : Adr) (τ ρ : Tau) (z : Nat) (hI : Inv τ) (hZ : Zer τ) (a : Int) (h_a : I32 a) (u : Int) (h_u : I32 u)  : Met l yX7_twice wsX7_twice { frames := 4, cells := 1, slots := 5, locals := 90 } (nPc D (cTy cT) EW (fun H => H.size = z ∧ CW D cT ad τ ρ H) [.ref (ad 0 0), .int (iI (a)), .int (iI (u))]) (nQ (some (.int (iI (spTwice τ a u)))) (nA ad τ z) (nP D cT ad τ (stTwice τ a u) ρ z)) 1 5 (nA ad τ z) := by
  refine n_start (by decide) rfl (Nat.le_of_ble_eq_true rfl) ?_
  intro p e s m below meth c hx hb hr hlocks hml hts hown hname hpre hK hE ls hl
  have hinX5 : ∀ w ∈ wsX50, w ∈ wsX7_twice := by decide +kernel
  obtain ⟨hz, hW⟩ := hpre
  have hNW := hE.1
  have hR : Rng τ := hI.1
  have hlt : ∀ k i, cLive τ k i → ad k i < z := fun k i hl => by have := hW.lt hl; omega
  have hS : va_S (nA ad τ z) s.heap s.heap [] := va_S.rf
  have hl : lv_has ls 6 [(0, .ref (ad 0 0)), (1, .int (iI (a))), (2, .int (iI (u)))] := hl
  have hq18_0 : (0 : Int) ≤ τ 18 0 ∧ τ 18 0 ≤ 6 := hI.1 18 0
  have hq19_atoNat : (0 : Int) ≤ τ 19 a.toNat ∧ τ 19 a.toNat ≤ 16 := hI.1 19 a.toNat
  have hq12_0 : (0 : Int) ≤ τ 12 0 ∧ τ 12 0 ≤ 30 := hI.1 12 0
  have hq21_16atoNatutoNat : (0 : Int) ≤ τ 21 (16 * a.toNat + u.toNat) ∧ τ 21 (16 * a.toNat + u.toNat) ≤ 100000 := hI.1 21 (16 * a.toNat + u.toNat)
  have hq20_16atoNatutoNat : (0 : Int) ≤ τ 20 (16 * a.toNat + u.toNat) ∧ τ 20 (16 * a.toNat + u.toNat) ≤ 3 := hI.1 20 (16 * a.toNat + u.toNat)
  have hwh := hI.2.2.2.1 a.toNat u.toNat
  by_cases hh : 0 ≤ a ∧ a < τ 18 0
  · by_cases hh2 : 0 ≤ u ∧ u < τ 19 a.toNat
    · refine lv_aload_n hx hb dX7_twice_0 rfl (lv_at hl 0 rfl) ?_
      refine lv_iload_n hx hb dX7_twice_1 rfl (lv_at hl 1 rfl) ?_
      refine c_callR (n := 1) (As := [.int (iI (a))]) (rest := []) hx hb hml hts hown hK hNW hW (va_recv hK (cw0 hW) (ci := 7) (q0 := 0) rfl rfl) (c7_batchNamed_some l D cT ad τ ρ hI.1 a.toNat a (by omega) (by omega)) gX7_twice_X7_batchNamed rfl rfl rfl (by decide +kernel) ⟨by decide, by decide⟩ rfl hl.1 rfl (Nat.le_of_ble_eq_true rfl) ⟨Nat.zero_le _, Nat.zero_le _⟩ dX7_twice_2 ?_
      refine lv_astore_n (lv' := [(3, .ref (ad 19 a.toNat)), (0, .ref (ad 0 0)), (1, .int (iI (a))), (2, .int (iI (u)))]) hx hb dX7_twice_5 rfl hl (by decide) rfl (fun ls hl => ?_)
      refine lv_aload_n hx hb dX7_twice_6 rfl (lv_at hl 1 rfl) ?_
      refine lv_iload_n hx hb dX7_twice_7 rfl (lv_at hl 2 rfl) ?_
      refine lv_iload_n hx hb dX7_twice_8 rfl (lv_at hl 3 rfl) ?_
      refine c_callR (n := 2) (As := [.int (iI (a)), .int (iI (u))]) (rest := []) hx hb hml hts hown hK hNW hW (va_recv hK (cw0 hW) (ci := 7) (q0 := 0) rfl rfl) (c7_placeNamed_some l D cT ad τ ρ hI.1 a.toNat a (by omega) u.toNat u (by omega) (by omega) (by omega)) gX7_twice_X7_placeNamed rfl rfl rfl (by decide +kernel) ⟨by decide, by decide⟩ rfl hl.1 rfl (Nat.le_of_ble_eq_true rfl) ⟨Nat.zero_le _, Nat.zero_le _⟩ dX7_twice_9 ?_
      refine lv_astore (lv' := [(4, .ref (ad 21 (16 * a.toNat + u.toNat))), (3, .ref (ad 19 a.toNat)), (0, .ref (ad 0 0)), (1, .int (iI (a))), (2, .int (iI (u)))]) hx hb dX7_twice_12 hl (by decide) rfl (fun ls hl => ?_)
      refine lv_aload_n hx hb dX7_twice_14 rfl (lv_at hl 1 rfl) ?_
      refine lv_ifnull hx hb dX7_twice_15 ?_
      refine lv_aload hx hb dX7_twice_18 (lv_at hl 0 rfl) ?_
      refine lv_ifnonnull (tgt := 26) hx hb dX7_twice_20 (by decide) ?_
      refine lv_aload hx hb dX7_twice_26 (lv_at hl 0 rfl) ?_
      refine y_get (C := RX5) (T := TX5) (N := 5) (ref := "CoreShed$Place") (ci := 5) hx hb hts hinX5 hown hK (cw21 hW (b := a.toNat) (q := u.toNat) (by omega) (by omega) (by omega)) rfl 0 (by decide) (hts _ (by decide +kernel)) rfl (v := .int (iI (τ 20 (16 * a.toNat + u.toNat)))) rfl dX7_twice_28 ?_
      have r1 : (0 : Int) ≤ τ 20 (16 * a.toNat + u.toNat) ∧ τ 20 (16 * a.toNat + u.toNat) ≤ 3 := hI.1 20 (16 * a.toNat + u.toNat)
      refine z_if_ne (tgt := 46) hx hb (by omega) dX7_twice_31 (by decide) (fun c2 => ?_) (fun c2 => ?_)
      · refine lv_null hx hb dX7_twice_46 ?_
        refine lv_astoreN (lv' := [(5, .null), (4, .ref (ad 21 (16 * a.toNat + u.toNat))), (3, .ref (ad 19 a.toNat)), (0, .ref (ad 0 0)), (1, .int (iI (a))), (2, .int (iI (u)))]) hx hb dX7_twice_47 hl (by decide) rfl (fun ls hl => ?_)
        refine lv_aloadN hx hb dX7_twice_49 (lv_at hl 0 rfl) ?_
        refine lv_ifnonnullN hx hb dX7_twice_51 ?_
        refine z_bipush hx hb dX7_twice_54 (by decide) ?_
        exact n_iret hx hb hr hlocks (by unfold stTwice; rw [if_neg (fun hk => by first | omega | exact hk.1 (by assumption) | exact hk.2.1 (by assumption) | exact hk.2.2.1 (by assumption) | exact hk.2.2.2.1 (by assumption) | exact hk.2.2.2 (by assumption) | exact hk.2.2.2.2 (by assumption))]; exact nP_rf hW) hS (Nat.le_of_ble_eq_true rfl) (Nat.le_of_ble_eq_true rfl) (by unfold spTwice; repeat (first | rw [if_pos (by first | assumption | omega)] | rw [if_neg (by first | assumption | omega | (intro hk; exact hk (by assumption)))])) dX7_twice_56
      · have hwj := (hwh (by omega) (by omega)).2 (by omega)
        refine lv_aload_n hx hb dX7_twice_34 rfl (lv_at hl 2 rfl) ?_
        refine lv_aload hx hb dX7_twice_35 (lv_at hl 0 rfl) ?_
        refine y_get (C := RX5) (T := TX5) (N := 5) (ref := "CoreShed$Place") (ci := 5) hx hb hts hinX5 hown hK (cw21 hW (b := a.toNat) (q := u.toNat) (by omega) (by omega) (by omega)) rfl 1 (by decide) (hts _ (by decide +kernel)) rfl (v := .int (iI (τ 21 (16 * a.toNat + u.toNat)))) rfl dX7_twice_37 ?_
        have r3 : (0 : Int) ≤ τ 21 (16 * a.toNat + u.toNat) ∧ τ 21 (16 * a.toNat + u.toNat) ≤ 100000 := hI.1 21 (16 * a.toNat + u.toNat)
        refine c_callR (n := 1) (As := [.int (iI (τ 21 (16 * a.toNat + u.toNat)))]) (rest := []) hx hb hml hts hown hK hNW hW (va_recv hK (cw0 hW) (ci := 7) (q0 := 0) rfl rfl) (c7_sampleNamed_some l D cT ad τ ρ hI.1 ((τ 21 (16 * a.toNat + u.toNat)).toNat) (τ 21 (16 * a.toNat + u.toNat)) (by omega) (by omega)) gX7_twice_X7_sampleNamed rfl rfl rfl (by decide +kernel) ⟨by decide, by decide⟩ rfl hl.1 rfl (Nat.le_of_ble_eq_true rfl) ⟨Nat.zero_le _, Nat.zero_le _⟩ dX7_twice_40 ?_
        refine lv_goto (tgt := 47) hx hb dX7_twice_43 (by decide) ?_
        refine lv_astore (lv' := [(5, .ref (ad 18 ((τ 21 (16 * a.toNat + u.toNat)).toNat))), (4, .ref (ad 21 (16 * a.toNat + u.toNat))), (3, .ref (ad 19 a.toNat)), (0, .ref (ad 0 0)), (1, .int (iI (a))), (2, .int (iI (u)))]) hx hb dX7_twice_47 hl (by decide) rfl (fun ls hl => ?_)
        refine lv_aload hx hb dX7_twice_49 (lv_at hl 0 rfl) ?_
        refine lv_ifnonnull (tgt := 57) hx hb dX7_twice_51 (by decide) ?_
        refine lv_aload_n hx hb dX7_twice_57 rfl (lv_at hl 2 rfl) ?_
        refine z_iconst hx hb dX7_twice_58 ?_
        refine lv_iload_n hx hb dX7_twice_59 rfl (lv_at hl 5 rfl) ?_
        refine lv_aload hx hb dX7_twice_60 (lv_at hl 0 rfl) ?_
        refine n_scall (n := 4) (As := [.ref (ad 19 a.toNat), .int (iI (3)), .int (iI (u)), .ref (ad 18 ((τ 21 (16 * a.toNat + u.toNat)).toNat))]) (rest := []) hx hb hml hts hown EW_mv hK hE ⟨hz, hW⟩ hS (fun q h => h) (c7_addPlaceWithQuarter l D cT ad τ ρ z hI hZ a.toNat (by omega) ((τ 21 (16 * a.toNat + u.toNat)).toNat) (by omega) 3 (by omega) u (by omega)) gX7_twice_X7_addPlaceWithQuarter rfl rfl rfl (by decide +kernel) ⟨by decide, by decide⟩ rfl hl.1 rfl (Nat.le_of_ble_eq_true rfl) ⟨(Nat.le_of_ble_eq_true rfl), (Nat.le_of_ble_eq_true rfl)⟩ dX7_twice_62 (fun H locs hp hzz hk hS => ?_)
        exact n_iret hx hb hr hlocks (by have e9 : stTwice τ a u = aqT τ a.toNat (τ 21 (16 * a.toNat + u.toNat)).toNat 3 u := if_cg ⟨fun h => ⟨h.2.2.1.1, h.2.2.1.2, h.2.2.2⟩, fun h => ⟨⟨hh, hh2⟩, by omega, ⟨h.1, h.2.1⟩, h.2.2⟩⟩; rw [e9]; exact hp) hS (Nat.le_of_ble_eq_true rfl) (Nat.le_of_ble_eq_true rfl) (by unfold spTwice; rw [if_neg (by omega), if_neg (by omega)]; exact aq_twi) dX7_twice_65
    · refine lv_aload_n hx hb dX7_twice_0 rfl (lv_at hl 0 rfl) ?_
      refine lv_iload_n hx hb dX7_twice_1 rfl (lv_at hl 1 rfl) ?_
      refine c_callR (n := 1) (As := [.int (iI (a))]) (rest := []) hx hb hml hts hown hK hNW hW (va_recv hK (cw0 hW) (ci := 7) (q0 := 0) rfl rfl) (c7_batchNamed_some l D cT ad τ ρ hI.1 a.toNat a (by omega) (by omega)) gX7_twice_X7_batchNamed rfl rfl rfl (by decide +kernel) ⟨by decide, by decide⟩ rfl hl.1 rfl (Nat.le_of_ble_eq_true rfl) ⟨Nat.zero_le _, Nat.zero_le _⟩ dX7_twice_2 ?_
      refine lv_astore_n (lv' := [(3, .ref (ad 19 a.toNat)), (0, .ref (ad 0 0)), (1, .int (iI (a))), (2, .int (iI (u)))]) hx hb dX7_twice_5 rfl hl (by decide) rfl (fun ls hl => ?_)
      refine lv_aload_n hx hb dX7_twice_6 rfl (lv_at hl 1 rfl) ?_
      refine lv_iload_n hx hb dX7_twice_7 rfl (lv_at hl 2 rfl) ?_
      refine lv_iload_n hx hb dX7_twice_8 rfl (lv_at hl 3 rfl) ?_
      refine c_callR (n := 2) (As := [.int (iI (a)), .int (iI (u))]) (rest := []) hx hb hml hts hown hK hNW hW (va_recv hK (cw0 hW) (ci := 7) (q0 := 0) rfl rfl) (c7_placeNamed_none l D cT ad τ ρ hI.1 a (by omega) u (by omega) (by omega)) gX7_twice_X7_placeNamed rfl rfl rfl (by decide +kernel) ⟨by decide, by decide⟩ rfl hl.1 rfl (Nat.le_of_ble_eq_true rfl) ⟨Nat.zero_le _, Nat.zero_le _⟩ dX7_twice_9 ?_
      refine lv_astoreN (lv' := [(4, .null), (3, .ref (ad 19 a.toNat)), (0, .ref (ad 0 0)), (1, .int (iI (a))), (2, .int (iI (u)))]) hx hb dX7_twice_12 hl (by decide) rfl (fun ls hl => ?_)
      refine lv_aload_n hx hb dX7_twice_14 rfl (lv_at hl 1 rfl) ?_
      refine lv_ifnull hx hb dX7_twice_15 ?_
      refine lv_aloadN hx hb dX7_twice_18 (lv_at hl 0 rfl) ?_
      refine lv_ifnonnullN hx hb dX7_twice_20 ?_
      refine z_bipush hx hb dX7_twice_23 (by decide) ?_
      exact n_iret hx hb hr hlocks (by unfold stTwice; rw [if_neg (fun hk => by first | omega | exact hk.1 (by assumption) | exact hk.2.1 (by assumption) | exact hk.2.2.1 (by assumption) | exact hk.2.2.2.1 (by assumption) | exact hk.2.2.2 (by assumption) | exact hk.2.2.2.2 (by assumption))]; exact nP_rf hW) hS (Nat.le_of_ble_eq_true rfl) (Nat.le_of_ble_eq_true rfl) (by unfold spTwice; repeat (first | rw [if_pos (by first | assumption | omega)] | rw [if_neg (by first | assumption | omega | (intro hk; exact hk (by assumption)))])) dX7_twice_25
  · refine lv_aload_n hx hb dX7_twice_0 rfl (lv_at hl 0 rfl) ?_
    refine lv_iload_n hx hb dX7_twice_1 rfl (lv_at hl 1 rfl) ?_
    refine c_callR (n := 1) (As := [.int (iI (a))]) (rest := []) hx hb hml hts hown hK hNW hW (va_recv hK (cw0 hW) (ci := 7) (q0 := 0) rfl rfl) (c7_batchNamed_none l D cT ad τ ρ hI.1 a (by omega) (by omega)) gX7_twice_X7_batchNamed rfl rfl rfl (by decide +kernel) ⟨by decide, by decide⟩ rfl hl.1 rfl (Nat.le_of_ble_eq_true rfl) ⟨Nat.zero_le _, Nat.zero_le _⟩ dX7_twice_2 ?_
    refine lv_astore_nN (lv' := [(3, .null), (0, .ref (ad 0 0)), (1, .int (iI (a))), (2, .int (iI (u)))]) hx hb dX7_twice_5 rfl hl (by decide) rfl (fun ls hl => ?_)
    refine lv_aload_n hx hb dX7_twice_6 rfl (lv_at hl 1 rfl) ?_
    refine lv_iload_n hx hb dX7_twice_7 rfl (lv_at hl 2 rfl) ?_
    refine lv_iload_n hx hb dX7_twice_8 rfl (lv_at hl 3 rfl) ?_
    refine c_callR (n := 2) (As := [.int (iI (a)), .int (iI (u))]) (rest := []) hx hb hml hts hown hK hNW hW (va_recv hK (cw0 hW) (ci := 7) (q0 := 0) rfl rfl) (c7_placeNamed_none l D cT ad τ ρ hI.1 a (by omega) u (by omega) (by omega)) gX7_twice_X7_placeNamed rfl rfl rfl (by decide +kernel) ⟨by decide, by decide⟩ rfl hl.1 rfl (Nat.le_of_ble_eq_true rfl) ⟨Nat.zero_le _, Nat.zero_le _⟩ dX7_twice_9 ?_
    refine lv_astoreN (lv' := [(4, .null), (3, .null), (0, .ref (ad 0 0)), (1, .int (iI (a))), (2, .int (iI (u)))]) hx hb dX7_twice_12 hl (by decide) rfl (fun ls hl => ?_)
    refine lv_aload_nN hx hb dX7_twice_14 rfl (lv_at hl 1 rfl) ?_
    refine lv_ifnullN (tgt := 23) hx hb dX7_twice_15 (by decide) ?_
    refine z_bipush hx hb dX7_twice_23 (by decide) ?_
    exact n_iret hx hb hr hlocks (by unfold stTwice; rw [if_neg (fun hk => by first | omega | exact hk.1 (by assumption) | exact hk.2.1 (by assumption) | exact hk.2.2.1 (by assumption) | exact hk.2.2.2.1 (by assumption) | exact hk.2.2.2 (by assumption) | exact hk.2.2.2.2 (by assumption))]; exact nP_rf hW) hS (Nat.le_of_ble_eq_true rfl) (Nat.le_of_ble_eq_true rfl) (by unfold spTwice; repeat (first | rw [if_pos (by first | assumption | omega)] | rw [if_neg (by first | assumption | omega | (intro hk; exact hk (by assumption)))])) dX7_twice_25
