set_option maxHeartbeats 4000000 in
set_option maxRecDepth 100000 in
theorem c4_mostAbove (l : Launch) (D : va_G) (cT : Nat → ClassId) (ad : Adr) (τ ρ : Tau) (hI : Rng τ) (h : Nat) (hlh : (h : Int) < τ 0 0) (k : Nat) (zk : Int) (hzk : zk = (k : Int)) (hk : (k : Int) < τ 4 h) (hL : ∀ j, k < j → (j : Int) < τ 4 h → 0 ≤ ρ 0 j ∧ ρ 0 j ≤ 20) : Met l yX4_mostAbove wsX4_mostAbove { frames := 1, cells := 0, slots := 0, locals := 21 } (cPc D cT ad τ ρ [.ref (ad 5 0), .ref (ad 11 h), .int (iI zk)]) (rS (mxK (ρ 0) (mkF τ h) (mkF τ h k) (k + 1) ((τ 4 h).toNat - (k + 1)))) 0 0 (NoA) := by
  subst hzk
  refine c_start (by decide) rfl (Nat.le_of_ble_eq_true rfl) ?_
  intro p e s m below meth c hx hb hr hlocks hml hts hown hW hK hNW ls hl
  have hinX1 : ∀ w ∈ wsX10, w ∈ wsX4_mostAbove := by decide +kernel
  have hinX4 : ∀ w ∈ wsX40, w ∈ wsX4_mostAbove := by decide +kernel
  have hl : lv_has ls 5 [(0, .ref (ad 5 0)), (1, .ref (ad 11 h)), (2, .int (iI ((k : Int))))] := hl
  obtain ⟨M, hM⟩ : ∃ N : Nat, τ 4 h = N := ⟨(τ 4 h).toNat, by have : (0 : Int) ≤ τ 4 h ∧ τ 4 h ≤ 20 := hI 4 h; omega⟩
  have hM2 : (τ 4 h).toNat = M := by omega
  have hM3 : M ≤ 20 := by have : (0 : Int) ≤ τ 4 h ∧ τ 4 h ≤ 20 := hI 4 h; omega
  have hf5 : (0 : Int) ≤ τ 5 (20 * h + k) ∧ τ 5 (20 * h + k) ≤ 100000 := hI 5 (20 * h + k)
  refine z_iconst hx hb dX4_mostAbove_0 ?_
  refine lv_istore_n (lv' := [(3, .int (iI (0))), (0, .ref (ad 5 0)), (1, .ref (ad 11 h)), (2, .int (iI ((k : Int))))]) hx hb dX4_mostAbove_1 rfl hl (by decide) rfl (fun ls hl => ?_)
  refine lv_iload_n hx hb dX4_mostAbove_2 rfl (lv_at hl 3 rfl) ?_
  refine z_iconst hx hb dX4_mostAbove_3 ?_
  refine z_iadd hx hb dX4_mostAbove_4 ?_
  refine lv_istore (lv' := [(4, .int (iI ((k : Int) + 1))), (3, .int (iI (0))), (0, .ref (ad 5 0)), (1, .ref (ad 11 h)), (2, .int (iI ((k : Int))))]) hx hb dX4_mostAbove_5 hl (by decide) rfl (fun ls hl => ?_)
  have lp7 : ∀ (n7 q : Nat) (x3 x4 : Int), x3 = mxK (ρ 0) (mkF τ h) (mkF τ h k) (k + 1) q → x4 = (k : Int) + 1 + (q : Int) → q ≤ (M - (k + 1)) → (M - (k + 1)) + 1 ≤ q + n7 → ∀ ls : Array Slot, lv_has ls 5 [(3, .int (iI (x3))), (4, .int (iI (x4))), (0, .ref (ad 5 0)), (1, .ref (ad 11 h)), (2, .int (iI ((k : Int))))] → W p l e { frames := 1, cells := 0, slots := 0, locals := 21 } s m [.ref (ad 5 0), .ref (ad 11 h), .int (iI ((k : Int)))].toArray below meth c s.heap [] 0 0 (MQ below (rS (mxK (ρ 0) (mkF τ h) (mkF τ h k) (k + 1) ((τ 4 h).toNat - (k + 1)))) [.ref (ad 5 0), .ref (ad 11 h), .int (iI ((k : Int)))].toArray s 0 0 (NoA)) (F0 m 7 ls []) := by
    intro n7
    induction n7 with
    | zero => intro q x3 x4  ex3 ex4 hk1 hk2; exact absurd hk2 (by omega)
    | succ n7 ih7 =>
      intro q x3 x4  ex3 ex4 hk1 hk2  ls hl
      subst ex3
      subst ex4
      have hm0 := mx_0 (ρ 0) (mkF τ h) (mkF τ h k) (k + 1) q
      have hmu := mx_u (L := ρ 0) (f := mkF τ h) (d := mkF τ h k) (s := k + 1) (B := 20) (by decide) (c := q) (fun j hj => (hL (k + 1 + j) (by omega) (by omega)).2)
      refine lv_iload hx hb dX4_mostAbove_7 (lv_at hl 1 rfl) ?_
      refine lv_aload_n hx hb dX4_mostAbove_9 rfl (lv_at hl 3 rfl) ?_
      refine y_get (C := RX1) (T := TX1) (N := 8) (ref := "CoreShed$Hole") (ci := 1) hx hb hts hinX1 hown hK (cw11 hW (i := h) (by omega)) rfl 6 (by decide) (hts _ (by decide +kernel)) rfl (v := .int (iI (τ 4 h))) rfl dX4_mostAbove_10 ?_
      have r1 : (0 : Int) ≤ τ 4 h ∧ τ 4 h ≤ 20 := hI 4 h
      refine z_icmp_ge (tgt := 50) hx hb (by omega) (by omega) dX4_mostAbove_13 (by decide) (fun c2 => ?_) (fun c2 => ?_)
      · refine lv_iload_n hx hb dX4_mostAbove_50 rfl (lv_at hl 0 rfl) ?_
        exact s_iret hx hb hr hlocks (by rw [hM2, show M - (k + 1) = q by omega]) dX4_mostAbove_51
      · refine lv_aload_n hx hb dX4_mostAbove_16 rfl (lv_at hl 3 rfl) ?_
        refine y_get (C := RX1) (T := TX1) (N := 8) (ref := "CoreShed$Hole") (ci := 1) hx hb hts hinX1 hown hK (cw11 hW (i := h) (by omega)) rfl 2 (by decide) (hts _ (by decide +kernel)) rfl (v := .ref (ad 14 h)) rfl dX4_mostAbove_17 ?_
        refine lv_iload hx hb dX4_mostAbove_20 (lv_at hl 1 rfl) ?_
        refine y_iald (j := k + 1 + q) hx hb hK 0 (cw14 hW (i := h) (by omega)) rfl (by omega) (by omega) (by decide) dX4_mostAbove_22 ?_
        have r3 : (0 : Int) ≤ τ 5 (20 * h + (k + 1 + q)) ∧ τ 5 (20 * h + (k + 1 + q)) ≤ 100000 := hI 5 (20 * h + (k + 1 + q))
        refine lv_aload_n hx hb dX4_mostAbove_23 rfl (lv_at hl 3 rfl) ?_
        refine y_get (C := RX1) (T := TX1) (N := 8) (ref := "CoreShed$Hole") (ci := 1) hx hb hts hinX1 hown hK (cw11 hW (i := h) (by omega)) rfl 2 (by decide) (hts _ (by decide +kernel)) rfl (v := .ref (ad 14 h)) rfl dX4_mostAbove_24 ?_
        refine lv_iload_n hx hb dX4_mostAbove_27 rfl (lv_at hl 4 rfl) ?_
        refine y_iald (j := k) hx hb hK 0 (cw14 hW (i := h) (by omega)) rfl (by omega) (by omega) (by decide) dX4_mostAbove_28 ?_
        have r4 : (0 : Int) ≤ τ 5 (20 * h + k) ∧ τ 5 (20 * h + k) ≤ 100000 := hI 5 (20 * h + k)
        refine z_icmp_le (tgt := 44) hx hb (by omega) (by omega) dX4_mostAbove_29 (by decide) (fun c5 => ?_) (fun c5 => ?_)
        · refine z_iinc (k := 1) (lv' := [(4, .int (iI (((k : Int) + 1 + (q : Int)) + 1))), (3, .int (iI (mxK (ρ 0) (mkF τ h) (mkF τ h k) (k + 1) q))), (0, .ref (ad 5 0)), (1, .ref (ad 11 h)), (2, .int (iI ((k : Int))))]) hx hb dX4_mostAbove_44 hl rfl (by decide) rfl (fun ls hl => ?_)
          refine lv_goto (tgt := 7) hx hb dX4_mostAbove_47 (by decide) ?_
          exact ih7 (q + 1) (mxK (ρ 0) (mkF τ h) (mkF τ h k) (k + 1) q) (((k : Int) + 1 + (q : Int)) + 1)  (by show _ = max (mxK (ρ 0) (mkF τ h) (mkF τ h k) (k + 1) q) (if mkF τ h k < mkF τ h (k + 1 + q) then ρ 0 (k + 1 + q) else 0); rw [if_neg (show ¬ mkF τ h k < mkF τ h (k + 1 + q) from (by show ¬ τ 5 (20 * h + k) < τ 5 (20 * h + (k + 1 + q)); omega))]; have := mx_0 (ρ 0) (mkF τ h) (mkF τ h k) (k + 1) q; omega) (by omega) (by omega) (by omega)  ls (lv_sub hl [1, 0, 2, 3, 4] rfl)
        · have hLq := hL (k + 1 + q) (by omega) (by omega)
          refine lv_iload_n hx hb dX4_mostAbove_32 rfl (lv_at hl 0 rfl) ?_
          refine lv_aload_n hx hb dX4_mostAbove_33 rfl (lv_at hl 2 rfl) ?_
          refine y_get (C := RX4) (T := TX4) (N := 2) (ref := "CoreShed$Mend") (ci := 4) hx hb hts hinX4 hown hK (cw5 hW) rfl 0 (by decide) (hts _ (by decide +kernel)) rfl (v := .ref (ad 6 0)) rfl dX4_mostAbove_34 ?_
          refine lv_iload hx hb dX4_mostAbove_37 (lv_at hl 1 rfl) ?_
          refine y_iald (j := k + 1 + q) hx hb hK 0 (cw6 hW) rfl (by omega) (by omega) (by decide) dX4_mostAbove_39 ?_
          refine z_mmax (own := RX4) hx hb (hml.trans hl.1.symm) hown (hts (.methodLink RX4 39 Lib.Math.max.name) (by decide +kernel)) (hts (.static Lib.Math.max.name) (by decide +kernel)) (hts (.initialized "java/lang/Math") (by decide +kernel)) (hts (.code Lib.Math.max.name Lib.Math.max.code 2 (some .int)) (by decide +kernel)) (by decide) (Nat.le_of_ble_eq_true rfl) (Nat.zero_le _) (Nat.zero_le _) (by omega) (by omega) dX4_mostAbove_40 ?_
          refine lv_istore_n (lv' := [(3, .int (iI (max (mxK (ρ 0) (mkF τ h) (mkF τ h k) (k + 1) q) (ρ 0 (k + 1 + q))))), (4, .int (iI ((k : Int) + 1 + (q : Int)))), (0, .ref (ad 5 0)), (1, .ref (ad 11 h)), (2, .int (iI ((k : Int))))]) hx hb dX4_mostAbove_43 rfl hl (by decide) rfl (fun ls hl => ?_)
          refine z_iinc (k := 1) (lv' := [(4, .int (iI (((k : Int) + 1 + (q : Int)) + 1))), (3, .int (iI (max (mxK (ρ 0) (mkF τ h) (mkF τ h k) (k + 1) q) (ρ 0 (k + 1 + q))))), (0, .ref (ad 5 0)), (1, .ref (ad 11 h)), (2, .int (iI ((k : Int))))]) hx hb dX4_mostAbove_44 hl rfl (by decide) rfl (fun ls hl => ?_)
          refine lv_goto (tgt := 7) hx hb dX4_mostAbove_47 (by decide) ?_
          exact ih7 (q + 1) (max (mxK (ρ 0) (mkF τ h) (mkF τ h k) (k + 1) q) (ρ 0 (k + 1 + q))) (((k : Int) + 1 + (q : Int)) + 1)  (by show _ = max (mxK (ρ 0) (mkF τ h) (mkF τ h k) (k + 1) q) (if mkF τ h k < mkF τ h (k + 1 + q) then ρ 0 (k + 1 + q) else 0); rw [if_pos (show mkF τ h k < mkF τ h (k + 1 + q) from (by show τ 5 (20 * h + k) < τ 5 (20 * h + (k + 1 + q)); omega))]) (by omega) (by omega) (by omega)  ls (lv_sub hl [1, 0, 2, 3, 4] rfl)
  exact lp7 ((M - (k + 1)) + 1) 0 0 ((k : Int) + 1)  rfl (by omega) (by omega) (by omega)  ls (lv_sub hl [1, 0, 2, 3, 4] rfl)
set_option maxHeartbeats 4000000 in
set_option maxRecDepth 100000 in
theorem c4_measure (l : Launch) (D : va_G) (cT : Nat → ClassId) (ad : Adr) (τ ρ : Tau) (hI : Inv τ) (h : Nat) (hlh : (h : Int) < τ 0 0)  : Met l yX4_measure wsX4_measure { frames := 2, cells := 0, slots := 0, locals := 45 } (cPc D cT ad τ ρ [.ref (ad 5 0), .ref (ad 11 h)]) (cQ D cT ad (some (.int (iI (meO τ h)))) τ (τ) (fun ρ2 => (∀ c, c ≠ 0 → ρ2 c = ρ c) ∧ ∀ j, j < (τ 4 h).toNat → ρ2 0 j = LG τ h j)) 0 0 (CA ad τ) := by
  refine c_start (by decide) rfl (Nat.le_of_ble_eq_true rfl) ?_
  intro p e s m below meth c hx hb hr hlocks hml hts hown hW hK hNW ls hl
  have hinX1 : ∀ w ∈ wsX10, w ∈ wsX4_measure := by decide +kernel
  have hinX4 : ∀ w ∈ wsX40, w ∈ wsX4_measure := by decide +kernel
  have hS : va_S (CA ad τ) s.heap s.heap [] := va_S.rf
  have hz : s.heap.size = s.heap.size := rfl
  have hR : Rng τ := hI.1
  have hl : lv_has ls 4 [(0, .ref (ad 5 0)), (1, .ref (ad 11 h))] := hl
  obtain ⟨M, hM⟩ : ∃ N : Nat, τ 4 h = N := ⟨(τ 4 h).toNat, by have : (0 : Int) ≤ τ 4 h ∧ τ 4 h ≤ 20 := hI.1 4 h; omega⟩
  have hM2 : (τ 4 h).toNat = M := by omega
  have hM3 : M ≤ 20 := by have : (0 : Int) ≤ τ 4 h ∧ τ 4 h ≤ 20 := hI.1 4 h; omega
  have hen := hI.2.1 h
  have hen2 := hI.en h
  have hms := ms_r (mkF τ h) (enO τ h) M
  refine z_iconst hx hb dX4_measure_0 ?_
  refine lv_istore_n (lv' := [(2, .int (iI (0))), (0, .ref (ad 5 0)), (1, .ref (ad 11 h))]) hx hb dX4_measure_1 rfl hl (by decide) rfl (fun ls hl => ?_)
  refine lv_aload_n hx hb dX4_measure_2 rfl (lv_at hl 2 rfl) ?_
  refine y_get (C := RX1) (T := TX1) (N := 8) (ref := "CoreShed$Hole") (ci := 1) hx hb hts hinX1 hown hK (cw11 hW (i := h) (by omega)) rfl 6 (by decide) (hts _ (by decide +kernel)) rfl (v := .int (iI (τ 4 h))) rfl dX4_measure_3 ?_
  have r1 : (0 : Int) ≤ τ 4 h ∧ τ 4 h ≤ 20 := hI.1 4 h
  refine z_iconst hx hb dX4_measure_6 ?_
  refine z_isub hx hb dX4_measure_7 ?_
  refine lv_istore_n (lv' := [(3, .int (iI ((τ 4 h) - 1))), (2, .int (iI (0))), (0, .ref (ad 5 0)), (1, .ref (ad 11 h))]) hx hb dX4_measure_8 rfl hl (by decide) rfl (fun ls hl => ?_)
  have lp9 : ∀ (n9 r : Nat) (x2 x3 : Int), x2 = msS (mkF τ h) (enO τ h) M r → x3 = (M : Int) - ((r : Int) + 1) → r ≤ M → M + 1 ≤ r + n9 → ∀ (ρc : Tau) (H : Heap) (locs : List Loc), CW D cT ad (τ) ρc H → va_S (CA ad τ) s.heap H locs → H.size = s.heap.size → Rng (τ) → (∀ c, c ≠ 0 → ρc c = ρ c) → (∀ j, M - r ≤ j → j < M → ρc 0 j = lgS (mkF τ h) (enO τ h) M r j) → ∀ ls : Array Slot, lv_has ls 4 [(2, .int (iI (x2))), (3, .int (iI (x3))), (0, .ref (ad 5 0)), (1, .ref (ad 11 h))] → W p l e { frames := 2, cells := 0, slots := 0, locals := 45 } s m [.ref (ad 5 0), .ref (ad 11 h)].toArray below meth c H locs 0 0 (MQ below (cQ D cT ad (some (.int (iI (meO τ h)))) τ (τ) (fun ρ2 => (∀ c, c ≠ 0 → ρ2 c = ρ c) ∧ ∀ j, j < (τ 4 h).toNat → ρ2 0 j = LG τ h j)) [.ref (ad 5 0), .ref (ad 11 h)].toArray s 0 0 (CA ad τ)) (F0 m 9 ls []) := by
    intro n9
    induction n9 with
    | zero => intro r x2 x3  ex2 ex3 hk1 hk2; exact absurd hk2 (by omega)
    | succ n9 ih9 =>
      intro r x2 x3  ex2 ex3 hk1 hk2  ρc H locs hW hS hz hR ho hL ls hl
      subst ex2
      subst ex3
      have hmr := hms r
      have hvr := vl_r (L := lgS (mkF τ h) (enO τ h) M r) (f := mkF τ h) (e := enO τ h) (k := M - (r + 1)) (s := M - r) (n := r) (B := r) (by omega) (fun j _ => (lg_r (mkF τ h) (enO τ h) M r (M - r + j)).2)
      refine lv_iload_n hx hb dX4_measure_9 rfl (lv_at hl 1 rfl) ?_
      refine z_if_lt (tgt := 61) hx hb (by omega) dX4_measure_10 (by decide) (fun c2 => ?_) (fun c2 => ?_)
      · refine lv_iload_n hx hb dX4_measure_61 rfl (lv_at hl 0 rfl) ?_
        exact c_iret hx hb hr hlocks (⟨⟨ho, fun j hj => by unfold LG; rw [hM2, hL j (by omega) (by omega), show r = M by omega]⟩, hW⟩) hS hz (by unfold meO; rw [hM2, show r = M by omega]) dX4_measure_62
      · refine lv_aload_n hx hb dX4_measure_13 rfl (lv_at hl 2 rfl) ?_
        refine y_get (C := RX4) (T := TX4) (N := 2) (ref := "CoreShed$Mend") (ci := 4) hx hb hts hinX4 hown hK (cw5 hW) rfl 0 (by decide) (hts _ (by decide +kernel)) rfl (v := .ref (ad 6 0)) rfl dX4_measure_14 ?_
        refine lv_iload_n hx hb dX4_measure_17 rfl (lv_at hl 1 rfl) ?_
        have jn43 : ∀ xj : Int, xj = ((vlS (lgS (mkF τ h) (enO τ h) M r) (mkF τ h) (enO τ h) (M - (r + 1)) (M - r) r)) → ∀ ls : Array Slot, lv_has ls 4 [(2, .int (iI (msS (mkF τ h) (enO τ h) M r))), (3, .int (iI ((M : Int) - ((r : Int) + 1)))), (0, .ref (ad 5 0)), (1, .ref (ad 11 h))] → W p l e { frames := 2, cells := 0, slots := 0, locals := 45 } s m [.ref (ad 5 0), .ref (ad 11 h)].toArray below meth c H locs 0 0 (MQ below (cQ D cT ad (some (.int (iI (meO τ h)))) τ (τ) (fun ρ2 => (∀ c, c ≠ 0 → ρ2 c = ρ c) ∧ ∀ j, j < (τ 4 h).toNat → ρ2 0 j = LG τ h j)) [.ref (ad 5 0), .ref (ad 11 h)].toArray s 0 0 (CA ad τ)) (F0 m 43 ls (.int (iI xj) :: .int (iI ((M : Int) - ((r : Int) + 1))) :: .ref (ad 6 0) :: [])) := by
          intro xj ej ls hl
          subst ej
          refine y_iast (j := M - (r + 1)) (v := (vlS (lgS (mkF τ h) (enO τ h) M r) (mkF τ h) (enO τ h) (M - (r + 1)) (M - r) r)) hx hb hK hS 0 (cw6 hW) ⟨6, 0, rfl, rfl⟩ rfl (by omega) (by omega) (by decide) dX4_measure_43 (fun H locs hO hz1 hoq hS => ?_)
          have hz := hz1.trans hz
          have hW := hW.putr0 hO hoq
          refine lv_iload_n hx hb dX4_measure_44 rfl (lv_at hl 0 rfl) ?_
          refine lv_aload_n hx hb dX4_measure_45 rfl (lv_at hl 2 rfl) ?_
          refine y_get (C := RX4) (T := TX4) (N := 2) (ref := "CoreShed$Mend") (ci := 4) hx hb hts hinX4 hown hK (cw5 hW) rfl 0 (by decide) (hts _ (by decide +kernel)) rfl (v := .ref (ad 6 0)) rfl dX4_measure_46 ?_
          refine lv_iload_n hx hb dX4_measure_49 rfl (lv_at hl 1 rfl) ?_
          refine y_iald (j := M - (r + 1)) hx hb hK 0 (cw6 hW) rfl (by omega) (by omega) (by decide) dX4_measure_50 ?_
          refine z_top (show (tu ρc 0 (M - (r + 1)) (vlS (lgS (mkF τ h) (enO τ h) M r) (mkF τ h) (enO τ h) (M - (r + 1)) (M - r) r)) 0 (M - (r + 1)) = (vlS (lgS (mkF τ h) (enO τ h) M r) (mkF τ h) (enO τ h) (M - (r + 1)) (M - r) r) from by rw [tu_s]) ?_
          refine z_mmax (own := RX4) hx hb (hml.trans hl.1.symm) hown (hts (.methodLink RX4 39 Lib.Math.max.name) (by decide +kernel)) (hts (.static Lib.Math.max.name) (by decide +kernel)) (hts (.initialized "java/lang/Math") (by decide +kernel)) (hts (.code Lib.Math.max.name Lib.Math.max.code 2 (some .int)) (by decide +kernel)) (by decide) (Nat.le_of_ble_eq_true rfl) (Nat.zero_le _) (Nat.zero_le _) (by omega) (by omega) dX4_measure_51 ?_
          refine lv_istore_n (lv' := [(2, .int (iI (max (msS (mkF τ h) (enO τ h) M r) (vlS (lgS (mkF τ h) (enO τ h) M r) (mkF τ h) (enO τ h) (M - (r + 1)) (M - r) r)))), (3, .int (iI ((M : Int) - ((r : Int) + 1)))), (0, .ref (ad 5 0)), (1, .ref (ad 11 h))]) hx hb dX4_measure_54 rfl hl (by decide) rfl (fun ls hl => ?_)
          refine z_iinc (k := 1) (lv' := [(3, .int (iI (((M : Int) - ((r : Int) + 1)) + (-1)))), (2, .int (iI (max (msS (mkF τ h) (enO τ h) M r) (vlS (lgS (mkF τ h) (enO τ h) M r) (mkF τ h) (enO τ h) (M - (r + 1)) (M - r) r)))), (0, .ref (ad 5 0)), (1, .ref (ad 11 h))]) hx hb dX4_measure_55 hl rfl (by decide) rfl (fun ls hl => ?_)
          refine lv_goto (tgt := 9) hx hb dX4_measure_58 (by decide) ?_
          exact ih9 (r + 1) (max (msS (mkF τ h) (enO τ h) M r) (vlS (lgS (mkF τ h) (enO τ h) M r) (mkF τ h) (enO τ h) (M - (r + 1)) (M - r) r)) (((M : Int) - ((r : Int) + 1)) + (-1))  rfl (by omega) (by omega) (by omega)  _ _ _ hW hS hz hR (fun c hc => by rw [tu_n hc]; exact ho c hc) (fun j h1 h2 => by show _ = fu (lgS (mkF τ h) (enO τ h) M r) (M - (r + 1)) (vlS (lgS (mkF τ h) (enO τ h) M r) (mkF τ h) (enO τ h) (M - (r + 1)) (M - r) r) j; exact if hj : j = M - (r + 1) then (by rw [hj, fu_s, tu_s]) else (by rw [fu_n hj, tu_c, fu_n hj]; exact hL j (by omega) h2)) ls (lv_sub hl [1, 0, 2, 3] rfl)
        refine lv_aload_n hx hb dX4_measure_18 rfl (lv_at hl 3 rfl) ?_
        refine y_get (C := RX1) (T := TX1) (N := 8) (ref := "CoreShed$Hole") (ci := 1) hx hb hts hinX1 hown hK (cw11 hW (i := h) (by omega)) rfl 2 (by decide) (hts _ (by decide +kernel)) rfl (v := .ref (ad 14 h)) rfl dX4_measure_19 ?_
        refine lv_iload_n hx hb dX4_measure_22 rfl (lv_at hl 1 rfl) ?_
        refine y_iald (j := M - (r + 1)) hx hb hK 0 (cw14 hW (i := h) (by omega)) rfl (by omega) (by omega) (by decide) dX4_measure_23 ?_
        have r3 : (0 : Int) ≤ τ 5 (20 * h + (M - (r + 1))) ∧ τ 5 (20 * h + (M - (r + 1))) ≤ 100000 := hI.1 5 (20 * h + (M - (r + 1)))
        refine lv_aload_n hx hb dX4_measure_24 rfl (lv_at hl 3 rfl) ?_
        refine y_get (C := RX1) (T := TX1) (N := 8) (ref := "CoreShed$Hole") (ci := 1) hx hb hts hinX1 hown hK (cw11 hW (i := h) (by omega)) rfl 7 (by decide) (hts _ (by decide +kernel)) rfl (v := .int (iI (τ 27 h))) rfl dX4_measure_25 ?_
        have r4 : (0 : Int) ≤ τ 27 h ∧ τ 27 h ≤ 20000 := hI.1 27 h
        refine z_icmp_le (tgt := 35) hx hb (by omega) (by omega) dX4_measure_28 (by decide) (fun c5 => ?_) (fun c5 => ?_)
        · refine z_iconst hx hb dX4_measure_35 ?_
          refine lv_aload_n hx hb dX4_measure_36 rfl (lv_at hl 2 rfl) ?_
          refine lv_aload_n hx hb dX4_measure_37 rfl (lv_at hl 3 rfl) ?_
          refine lv_iload_n hx hb dX4_measure_38 rfl (lv_at hl 1 rfl) ?_
          refine c_call (n := 2) (As := [.ref (ad 11 h), .int (iI ((M : Int) - ((r : Int) + 1)))]) (rest := [.int (iI (1)), .int (iI ((M : Int) - ((r : Int) + 1))), .ref (ad 6 0)]) hx hb hml hts hown hK hNW hW (va_recv hK (cw5 hW) (ci := 4) (q0 := 0) rfl rfl) (c4_mostAbove l D cT ad τ ρc hI.1 h (by omega) (M - (r + 1)) ((M : Int) - ((r : Int) + 1)) (by omega) (by omega) (fun j h1 h2 => by rw [hL j (by omega) (by omega)]; have := lg_r (mkF τ h) (enO τ h) M r j; omega)) gX4_measure_X4_mostAbove rfl rfl rfl (by decide +kernel) ⟨by decide, by decide⟩ rfl hl.1 rfl (Nat.le_of_ble_eq_true rfl) ⟨Nat.zero_le _, Nat.zero_le _⟩ dX4_measure_39 ?_
          refine z_iadd hx hb dX4_measure_42 ?_
          exact jn43 (1 + (mxK (ρc 0) (mkF τ h) (mkF τ h (M - (r + 1))) ((M - (r + 1)) + 1) ((τ 4 h).toNat - ((M - (r + 1)) + 1)))) (by unfold vlS; rw [if_neg (show ¬ enO τ h < mkF τ h (M - (r + 1)) from (by show ¬ enO τ h < τ 5 (20 * h + (M - (r + 1))); omega))]; congr 1; rw [show (M - (r + 1)) + 1 = M - r by omega, show (τ 4 h).toNat - (M - r) = r by omega]; exact mx_cong (fun j hj => hL (M - r + j) (by omega) (by omega))) ls (lv_sub hl [0, 1, 2, 3] rfl)
        · refine z_iconst hx hb dX4_measure_31 ?_
          refine lv_goto (tgt := 43) hx hb dX4_measure_32 (by decide) ?_
          exact jn43 0 (by unfold vlS; rw [if_pos (show enO τ h < mkF τ h (M - (r + 1)) from (by show enO τ h < τ 5 (20 * h + (M - (r + 1))); omega))]) ls (lv_sub hl [0, 1, 2, 3] rfl)
  exact lp9 (M + 1) 0 0 ((τ 4 h) - 1)  rfl (by omega) (by omega) (by omega)  _ _ _ hW hS hz hR (fun _ _ => rfl) (fun j h1 h2 => absurd h2 (by omega)) ls (lv_sub hl [1, 0, 2, 3] rfl)
set_option maxHeartbeats 4000000 in
set_option maxRecDepth 100000 in
theorem c4_choose (l : Launch) (D : va_G) (cT : Nat → ClassId) (ad : Adr) (τ ρ : Tau) (hI : Inv τ) (h : Nat) (hlh : (h : Int) < τ 0 0)  : Met l yX4_choose wsX4_choose { frames := 3, cells := 0, slots := 0, locals := 68 } (cPc D cT ad τ ρ [.ref (ad 5 0), .ref (ad 11 h)]) (cQ D cT ad (some (.int (iI (meO τ h)))) τ (τ) (fun ρ2 => ∀ j, j < (τ 4 h).toNat → ρ2 1 j = bI (rtP τ h j))) 0 0 (CA ad τ) := by
  refine c_start (by decide) rfl (Nat.le_of_ble_eq_true rfl) ?_
  intro p e s m below meth c hx hb hr hlocks hml hts hown hW hK hNW ls hl
  have hinX1 : ∀ w ∈ wsX10, w ∈ wsX4_choose := by decide +kernel
  have hinX4 : ∀ w ∈ wsX40, w ∈ wsX4_choose := by decide +kernel
  have hS : va_S (CA ad τ) s.heap s.heap [] := va_S.rf
  have hz : s.heap.size = s.heap.size := rfl
  have hR : Rng τ := hI.1
  have hl : lv_has ls 6 [(0, .ref (ad 5 0)), (1, .ref (ad 11 h))] := hl
  obtain ⟨M, hM⟩ : ∃ N : Nat, τ 4 h = N := ⟨(τ 4 h).toNat, by have : (0 : Int) ≤ τ 4 h ∧ τ 4 h ≤ 20 := hI.1 4 h; omega⟩
  have hM2 : (τ 4 h).toNat = M := by omega
  have hM3 : M ≤ 20 := by have : (0 : Int) ≤ τ 4 h ∧ τ 4 h ≤ 20 := hI.1 4 h; omega
  have hme := me_r hI.1 h
  refine lv_aload_n hx hb dX4_choose_0 rfl (lv_at hl 0 rfl) ?_
  refine lv_aload_n hx hb dX4_choose_1 rfl (lv_at hl 1 rfl) ?_
  refine c_callW (n := 1) (As := [.ref (ad 11 h)]) (rest := []) hx hb hml hts hown hK hNW hW (va_recv hK (cw5 hW) (ci := 4) (q0 := 0) rfl rfl) hS hz (fun q h => h) (c4_measure l D cT ad τ ρ hI h (by omega)) gX4_choose_X4_measure rfl rfl rfl (by decide +kernel) ⟨by decide, by decide⟩ rfl hl.1 rfl (Nat.le_of_ble_eq_true rfl) ⟨Nat.zero_le _, Nat.zero_le _⟩ dX4_choose_2 (fun ρ2 hq H locs hW hS hz => ?_)
  have hW : CW D cT ad τ ρ2 H := hW
  refine lv_istore_n (lv' := [(2, .int (iI (meO τ h))), (0, .ref (ad 5 0)), (1, .ref (ad 11 h))]) hx hb dX4_choose_5 rfl hl (by decide) rfl (fun ls hl => ?_)
  refine lv_iload_n hx hb dX4_choose_6 rfl (lv_at hl 0 rfl) ?_
  refine lv_istore_n (lv' := [(3, .int (iI (meO τ h))), (2, .int (iI (meO τ h))), (0, .ref (ad 5 0)), (1, .ref (ad 11 h))]) hx hb dX4_choose_7 rfl hl (by decide) rfl (fun ls hl => ?_)
  refine z_iconst hx hb dX4_choose_8 ?_
  refine lv_istore (lv' := [(4, .int (iI ((-1)))), (3, .int (iI (meO τ h))), (2, .int (iI (meO τ h))), (0, .ref (ad 5 0)), (1, .ref (ad 11 h))]) hx hb dX4_choose_9 hl (by decide) rfl (fun ls hl => ?_)
  refine z_iconst hx hb dX4_choose_11 ?_
  refine lv_istore (lv' := [(5, .int (iI (0))), (4, .int (iI ((-1)))), (3, .int (iI (meO τ h))), (2, .int (iI (meO τ h))), (0, .ref (ad 5 0)), (1, .ref (ad 11 h))]) hx hb dX4_choose_12 hl (by decide) rfl (fun ls hl => ?_)
  have lp14 : ∀ (n14 k : Nat) (x3 x4 x5 : Int), x3 = (chS (LG τ h) (mkF τ h) (meO τ h) k).1 → x4 = (chS (LG τ h) (mkF τ h) (meO τ h) k).2 → x5 = (k : Int) → k ≤ M → M + 1 ≤ k + n14 → ∀ (ρe : Tau) (H : Heap) (locs : List Loc), CW D cT ad (τ) ρe H → va_S (CA ad τ) s.heap H locs → H.size = s.heap.size → Rng (τ) → (∀ j, j < M → ρe 0 j = LG τ h j) → (∀ j, j < k → ρe 1 j = bI (rtP τ h j)) → ∀ ls : Array Slot, lv_has ls 6 [(3, .int (iI (x3))), (4, .int (iI (x4))), (5, .int (iI (x5))), (2, .int (iI (meO τ h))), (0, .ref (ad 5 0)), (1, .ref (ad 11 h))] → W p l e { frames := 3, cells := 0, slots := 0, locals := 68 } s m [.ref (ad 5 0), .ref (ad 11 h)].toArray below meth c H locs 0 0 (MQ below (cQ D cT ad (some (.int (iI (meO τ h)))) τ (τ) (fun ρ2 => ∀ j, j < (τ 4 h).toNat → ρ2 1 j = bI (rtP τ h j))) [.ref (ad 5 0), .ref (ad 11 h)].toArray s 0 0 (CA ad τ)) (F0 m 14 ls []) := by
    intro n14
    induction n14 with
    | zero => intro k x3 x4 x5  ex3 ex4 ex5 hk1 hk2; exact absurd hk2 (by omega)
    | succ n14 ih14 =>
      intro k x3 x4 x5  ex3 ex4 ex5 hk1 hk2  ρe H locs hW hS hz hR heL heR ls hl
      subst ex3
      subst ex4
      subst ex5
      have hch := ch_r (L := LG τ h) (f := mkF τ h) (n0 := meO τ h) (B := 100000) (me_r hI.1 h) (by omega) (fun j => by have h5 : (0 : Int) ≤ τ 5 (20 * h + j) ∧ τ 5 (20 * h + j) ≤ 100000 := hI.1 5 (20 * h + j); show -1 ≤ τ 5 _ ∧ τ 5 _ ≤ 100000; omega) k
      refine lv_iload hx hb dX4_choose_14 (lv_at hl 2 rfl) ?_
      refine lv_aload_n hx hb dX4_choose_16 rfl (lv_at hl 5 rfl) ?_
      refine y_get (C := RX1) (T := TX1) (N := 8) (ref := "CoreShed$Hole") (ci := 1) hx hb hts hinX1 hown hK (cw11 hW (i := h) (by omega)) rfl 6 (by decide) (hts _ (by decide +kernel)) rfl (v := .int (iI (τ 4 h))) rfl dX4_choose_17 ?_
      have r1 : (0 : Int) ≤ τ 4 h ∧ τ 4 h ≤ 20 := hI.1 4 h
      refine z_icmp_ge (tgt := 90) hx hb (by omega) (by omega) dX4_choose_20 (by decide) (fun c2 => ?_) (fun c2 => ?_)
      · refine lv_iload_n hx hb dX4_choose_90 rfl (lv_at hl 3 rfl) ?_
        exact c_iret hx hb hr hlocks (⟨fun j hj => heR j (by omega), hW⟩) hS hz (rfl) dX4_choose_91
      · refine lv_aload_n hx hb dX4_choose_23 rfl (lv_at hl 4 rfl) ?_
        refine y_get (C := RX4) (T := TX4) (N := 2) (ref := "CoreShed$Mend") (ci := 4) hx hb hts hinX4 hown hK (cw5 hW) rfl 1 (by decide) (hts _ (by decide +kernel)) rfl (v := .ref (ad 7 0)) rfl dX4_choose_24 ?_
        refine lv_iload hx hb dX4_choose_27 (lv_at hl 2 rfl) ?_
        have jn61 : ∀ xj : Int, xj = (bI (rtP τ h k)) → ∀ ls : Array Slot, lv_has ls 6 [(3, .int (iI ((chS (LG τ h) (mkF τ h) (meO τ h) k).1))), (4, .int (iI ((chS (LG τ h) (mkF τ h) (meO τ h) k).2))), (5, .int (iI ((k : Int)))), (2, .int (iI (meO τ h))), (0, .ref (ad 5 0)), (1, .ref (ad 11 h))] → W p l e { frames := 3, cells := 0, slots := 0, locals := 68 } s m [.ref (ad 5 0), .ref (ad 11 h)].toArray below meth c H locs 0 0 (MQ below (cQ D cT ad (some (.int (iI (meO τ h)))) τ (τ) (fun ρ2 => ∀ j, j < (τ 4 h).toNat → ρ2 1 j = bI (rtP τ h j))) [.ref (ad 5 0), .ref (ad 11 h)].toArray s 0 0 (CA ad τ)) (F0 m 61 ls (.int (iI xj) :: .int (iI ((k : Int))) :: .ref (ad 7 0) :: [])) := by
          intro xj ej ls hl
          subst ej
          refine y_zast (j := k) (v := bI (rtP τ h k)) hx hb hK hS 1 (cw7 hW) ⟨7, 0, rfl, rfl⟩ rfl (by omega) (by omega) (by decide) (bI_01 _) dX4_choose_61 (fun H locs hO hz1 hoq hS => ?_)
          have hz := hz1.trans hz
          have hW := hW.putr1 hO hoq
          refine lv_aload_n hx hb dX4_choose_62 rfl (lv_at hl 4 rfl) ?_
          refine y_get (C := RX4) (T := TX4) (N := 2) (ref := "CoreShed$Mend") (ci := 4) hx hb hts hinX4 hown hK (cw5 hW) rfl 1 (by decide) (hts _ (by decide +kernel)) rfl (v := .ref (ad 7 0)) rfl dX4_choose_63 ?_
          refine lv_iload hx hb dX4_choose_66 (lv_at hl 2 rfl) ?_
          refine y_zald (j := k) hx hb hK 1 (cw7 hW) rfl (by omega) (by omega) (by decide) dX4_choose_68 ?_
          refine z_top (show (tu ρe 1 k (bI (rtP τ h k))) 1 k = bI (rtP τ h k) from by rw [tu_s]) ?_
          refine z_if_eqB (tgt := 84) hx hb dX4_choose_69 (by decide) (fun c3 => ?_) (fun c3 => ?_)
          · refine z_iinc (k := 2) (lv' := [(5, .int (iI ((k : Int) + 1))), (3, .int (iI ((chS (LG τ h) (mkF τ h) (meO τ h) k).1))), (4, .int (iI ((chS (LG τ h) (mkF τ h) (meO τ h) k).2))), (2, .int (iI (meO τ h))), (0, .ref (ad 5 0)), (1, .ref (ad 11 h))]) hx hb dX4_choose_84 hl rfl (by decide) rfl (fun ls hl => ?_)
            refine lv_goto (tgt := 14) hx hb dX4_choose_87 (by decide) ?_
            exact ih14 (k + 1) ((chS (LG τ h) (mkF τ h) (meO τ h) k).1) ((chS (LG τ h) (mkF τ h) (meO τ h) k).2) ((k : Int) + 1)  (by rw [ch_f c3]) (by rw [ch_f c3]) (by omega) (by omega) (by omega)  _ _ _ hW hS hz hR (fun j hj => by rw [tu_n (by decide)]; exact heL j hj) (fun j hj => if hjk : j = k then (by rw [hjk, tu_s]) else (by rw [tu_c, fu_n hjk]; exact heR j (by omega))) ls (lv_sub hl [1, 2, 0, 3, 4, 5] rfl)
          · refine lv_aload_n hx hb dX4_choose_72 rfl (lv_at hl 5 rfl) ?_
            refine y_get (C := RX1) (T := TX1) (N := 8) (ref := "CoreShed$Hole") (ci := 1) hx hb hts hinX1 hown hK (cw11 hW (i := h) (by omega)) rfl 2 (by decide) (hts _ (by decide +kernel)) rfl (v := .ref (ad 14 h)) rfl dX4_choose_73 ?_
            refine lv_iload hx hb dX4_choose_76 (lv_at hl 2 rfl) ?_
            refine y_iald (j := k) hx hb hK 0 (cw14 hW (i := h) (by omega)) rfl (by omega) (by omega) (by decide) dX4_choose_78 ?_
            have r4 : (0 : Int) ≤ τ 5 (20 * h + k) ∧ τ 5 (20 * h + k) ≤ 100000 := hI.1 5 (20 * h + k)
            refine lv_istore (lv' := [(4, .int (iI (τ 5 (20 * h + k)))), (3, .int (iI ((chS (LG τ h) (mkF τ h) (meO τ h) k).1))), (5, .int (iI ((k : Int)))), (2, .int (iI (meO τ h))), (0, .ref (ad 5 0)), (1, .ref (ad 11 h))]) hx hb dX4_choose_79 hl (by decide) rfl (fun ls hl => ?_)
            refine z_iinc (k := 1) (lv' := [(3, .int (iI (((chS (LG τ h) (mkF τ h) (meO τ h) k).1) + (-1)))), (4, .int (iI (τ 5 (20 * h + k)))), (5, .int (iI ((k : Int)))), (2, .int (iI (meO τ h))), (0, .ref (ad 5 0)), (1, .ref (ad 11 h))]) hx hb dX4_choose_81 hl rfl (by decide) rfl (fun ls hl => ?_)
            refine z_iinc (k := 2) (lv' := [(5, .int (iI ((k : Int) + 1))), (3, .int (iI (((chS (LG τ h) (mkF τ h) (meO τ h) k).1) + (-1)))), (4, .int (iI (τ 5 (20 * h + k)))), (2, .int (iI (meO τ h))), (0, .ref (ad 5 0)), (1, .ref (ad 11 h))]) hx hb dX4_choose_84 hl rfl (by decide) rfl (fun ls hl => ?_)
            refine lv_goto (tgt := 14) hx hb dX4_choose_87 (by decide) ?_
            exact ih14 (k + 1) (((chS (LG τ h) (mkF τ h) (meO τ h) k).1) + (-1)) (τ 5 (20 * h + k)) ((k : Int) + 1)  (by rw [ch_t c3]; show _ = (chS (LG τ h) (mkF τ h) (meO τ h) k).1 - 1; omega) (by rw [ch_t c3]; rfl) (by omega) (by omega) (by omega)  _ _ _ hW hS hz hR (fun j hj => by rw [tu_n (by decide)]; exact heL j hj) (fun j hj => if hjk : j = k then (by rw [hjk, tu_s]) else (by rw [tu_c, fu_n hjk]; exact heR j (by omega))) ls (lv_sub hl [1, 2, 0, 3, 4, 5] rfl)
        refine lv_iload_n hx hb dX4_choose_29 rfl (lv_at hl 0 rfl) ?_
        refine z_if_le (tgt := 60) hx hb (by omega) dX4_choose_30 (by decide) (fun c5 => ?_) (fun c5 => ?_)
        · refine z_iconst hx hb dX4_choose_60 ?_
          exact jn61 0 (bI_f (show ¬ (0 < (chS (LG τ h) (mkF τ h) (meO τ h) k).1 ∧ LG τ h k = (chS (LG τ h) (mkF τ h) (meO τ h) k).1 ∧ (chS (LG τ h) (mkF τ h) (meO τ h) k).2 < τ 5 (20 * h + k)) by omega)).symm ls (lv_sub hl [0, 1, 2, 3, 4, 5] rfl)
        · refine lv_aload_n hx hb dX4_choose_33 rfl (lv_at hl 5 rfl) ?_
          refine y_get (C := RX1) (T := TX1) (N := 8) (ref := "CoreShed$Hole") (ci := 1) hx hb hts hinX1 hown hK (cw11 hW (i := h) (by omega)) rfl 2 (by decide) (hts _ (by decide +kernel)) rfl (v := .ref (ad 14 h)) rfl dX4_choose_34 ?_
          refine lv_iload hx hb dX4_choose_37 (lv_at hl 2 rfl) ?_
          refine y_iald (j := k) hx hb hK 0 (cw14 hW (i := h) (by omega)) rfl (by omega) (by omega) (by decide) dX4_choose_39 ?_
          have r6 : (0 : Int) ≤ τ 5 (20 * h + k) ∧ τ 5 (20 * h + k) ≤ 100000 := hI.1 5 (20 * h + k)
          refine lv_iload hx hb dX4_choose_40 (lv_at hl 1 rfl) ?_
          refine z_icmp_le (tgt := 60) hx hb (by omega) (by omega) dX4_choose_42 (by decide) (fun c7 => ?_) (fun c7 => ?_)
          · refine z_iconst hx hb dX4_choose_60 ?_
            exact jn61 0 (bI_f (show ¬ (0 < (chS (LG τ h) (mkF τ h) (meO τ h) k).1 ∧ LG τ h k = (chS (LG τ h) (mkF τ h) (meO τ h) k).1 ∧ (chS (LG τ h) (mkF τ h) (meO τ h) k).2 < τ 5 (20 * h + k)) by omega)).symm ls (lv_sub hl [0, 1, 2, 3, 4, 5] rfl)
          · have hlk := heL k (by omega)
            have hlr := lg_r (mkF τ h) (enO τ h) (τ 4 h).toNat (τ 4 h).toNat k
            have hlr : 0 ≤ LG τ h k ∧ LG τ h k ≤ (τ 4 h).toNat := hlr
            refine lv_aload_n hx hb dX4_choose_45 rfl (lv_at hl 4 rfl) ?_
            refine y_get (C := RX4) (T := TX4) (N := 2) (ref := "CoreShed$Mend") (ci := 4) hx hb hts hinX4 hown hK (cw5 hW) rfl 0 (by decide) (hts _ (by decide +kernel)) rfl (v := .ref (ad 6 0)) rfl dX4_choose_46 ?_
            refine lv_iload hx hb dX4_choose_49 (lv_at hl 2 rfl) ?_
            refine y_iald (j := k) hx hb hK 0 (cw6 hW) rfl (by omega) (by omega) (by decide) dX4_choose_51 ?_
            refine lv_iload_n hx hb dX4_choose_52 rfl (lv_at hl 0 rfl) ?_
            refine z_icmp_ne (tgt := 60) hx hb (by omega) (by omega) dX4_choose_53 (by decide) (fun c8 => ?_) (fun c8 => ?_)
            · refine z_iconst hx hb dX4_choose_60 ?_
              exact jn61 0 (bI_f (show ¬ (0 < (chS (LG τ h) (mkF τ h) (meO τ h) k).1 ∧ LG τ h k = (chS (LG τ h) (mkF τ h) (meO τ h) k).1 ∧ (chS (LG τ h) (mkF τ h) (meO τ h) k).2 < τ 5 (20 * h + k)) by omega)).symm ls (lv_sub hl [0, 1, 2, 3, 4, 5] rfl)
            · refine z_iconst hx hb dX4_choose_56 ?_
              refine lv_goto (tgt := 61) hx hb dX4_choose_57 (by decide) ?_
              exact jn61 1 (bI_t (show 0 < (chS (LG τ h) (mkF τ h) (meO τ h) k).1 ∧ LG τ h k = (chS (LG τ h) (mkF τ h) (meO τ h) k).1 ∧ (chS (LG τ h) (mkF τ h) (meO τ h) k).2 < τ 5 (20 * h + k) by omega)).symm ls (lv_sub hl [0, 1, 2, 3, 4, 5] rfl)
  exact lp14 (M + 1) 0 (meO τ h) (-1) 0  rfl rfl (by omega) (by omega) (by omega)  _ _ _ hW hS hz hR (fun j hj => hq.2 j (by omega)) (fun j hj => absurd hj (by omega)) ls (lv_sub hl [2, 1, 0, 3, 4, 5] rfl)
set_option maxHeartbeats 4000000 in
set_option maxRecDepth 100000 in
theorem c7_wrong (l : Launch) (D : va_G) (cT : Nat → ClassId) (ad : Adr) (τ ρ : Tau) (hI : Inv τ) (a : Int) (h_a : I32 a)  : Met l yX7_wrong wsX7_wrong { frames := 4, cells := 0, slots := 0, locals := 93 } (cPc D cT ad τ ρ [.ref (ad 0 0), .int (iI (a))]) (cQ D cT ad (some (.int (iI (spWrong τ a)))) τ (τ) (fun _ => True)) 0 0 (CA ad τ) := by
  refine c_start (by decide) rfl (Nat.le_of_ble_eq_true rfl) ?_
  intro p e s m below meth c hx hb hr hlocks hml hts hown hW hK hNW ls hl
  have hinX1 : ∀ w ∈ wsX10, w ∈ wsX7_wrong := by decide +kernel
  have hinX7 : ∀ w ∈ wsX70, w ∈ wsX7_wrong := by decide +kernel
  have hS : va_S (CA ad τ) s.heap s.heap [] := va_S.rf
  have hz : s.heap.size = s.heap.size := rfl
  have hR : Rng τ := hI.1
  have hl : lv_has ls 3 [(0, .ref (ad 0 0)), (1, .int (iI (a)))] := hl
  have hq4_atoNat : (0 : Int) ≤ τ 4 a.toNat ∧ τ 4 a.toNat ≤ 20 := hI.1 4 a.toNat
  have hme := me_r hI.1 a.toNat
  by_cases hh : 0 ≤ a ∧ a < τ 0 0
  · refine lv_aload_n hx hb dX7_wrong_0 rfl (lv_at hl 0 rfl) ?_
    refine lv_iload_n hx hb dX7_wrong_1 rfl (lv_at hl 1 rfl) ?_
    refine c_callR (n := 1) (As := [.int (iI (a))]) (rest := []) hx hb hml hts hown hK hNW hW (va_recv hK (cw0 hW) (ci := 7) (q0 := 0) rfl rfl) (c7_holeNamed_some l D cT ad τ ρ hI.1 a.toNat a (by omega) (by omega)) gX7_wrong_X7_holeNamed rfl rfl rfl (by decide +kernel) ⟨by decide, by decide⟩ rfl hl.1 rfl (Nat.le_of_ble_eq_true rfl) ⟨Nat.zero_le _, Nat.zero_le _⟩ dX7_wrong_2 ?_
    refine lv_astore_n (lv' := [(2, .ref (ad 11 a.toNat)), (0, .ref (ad 0 0)), (1, .int (iI (a)))]) hx hb dX7_wrong_5 rfl hl (by decide) rfl (fun ls hl => ?_)
    refine lv_aload_n hx hb dX7_wrong_6 rfl (lv_at hl 0 rfl) ?_
    refine lv_ifnonnull (tgt := 13) hx hb dX7_wrong_7 (by decide) ?_
    refine lv_aload_n hx hb dX7_wrong_13 rfl (lv_at hl 0 rfl) ?_
    refine y_get (C := RX1) (T := TX1) (N := 8) (ref := "CoreShed$Hole") (ci := 1) hx hb hts hinX1 hown hK (cw11 hW (i := a.toNat) (by omega)) rfl 6 (by decide) (hts _ (by decide +kernel)) rfl (v := .int (iI (τ 4 a.toNat))) rfl dX7_wrong_14 ?_
    have r1 : (0 : Int) ≤ τ 4 a.toNat ∧ τ 4 a.toNat ≤ 20 := hI.1 4 a.toNat
    refine lv_aload_n hx hb dX7_wrong_17 rfl (lv_at hl 1 rfl) ?_
    refine y_get (C := RX7) (T := TX7) (N := 11) (ref := "CoreShed") (ci := 7) hx hb hts hinX7 hown hK (cw0 hW) rfl 4 (by decide) (hts _ (by decide +kernel)) rfl (v := .ref (ad 5 0)) rfl dX7_wrong_18 ?_
    refine lv_aload_n hx hb dX7_wrong_21 rfl (lv_at hl 0 rfl) ?_
    refine c_callW (n := 1) (As := [.ref (ad 11 a.toNat)]) (rest := [.int (iI (τ 4 a.toNat))]) hx hb hml hts hown hK hNW hW (va_recv hK (cw5 hW) (ci := 4) (q0 := 0) rfl rfl) hS hz (fun q h => h) (c4_choose l D cT ad τ ρ hI a.toNat (by omega)) gX7_wrong_X4_choose rfl rfl rfl (by decide +kernel) ⟨by decide, by decide⟩ rfl hl.1 rfl (Nat.le_of_ble_eq_true rfl) ⟨Nat.zero_le _, Nat.zero_le _⟩ dX7_wrong_22 (fun ρ2 hq H locs hW hS hz => ?_)
    have hW : CW D cT ad τ ρ2 H := hW
    refine z_isub hx hb dX7_wrong_25 ?_
    exact c_iret hx hb hr hlocks (⟨trivial, hW⟩) hS hz (by unfold spWrong; repeat (first | rw [if_pos (by first | assumption | omega)] | rw [if_neg (by first | assumption | omega | (intro hk; exact hk (by assumption)))])) dX7_wrong_26
  · refine lv_aload_n hx hb dX7_wrong_0 rfl (lv_at hl 0 rfl) ?_
    refine lv_iload_n hx hb dX7_wrong_1 rfl (lv_at hl 1 rfl) ?_
    refine c_callR (n := 1) (As := [.int (iI (a))]) (rest := []) hx hb hml hts hown hK hNW hW (va_recv hK (cw0 hW) (ci := 7) (q0 := 0) rfl rfl) (c7_holeNamed_none l D cT ad τ ρ hI.1 a (by omega) (by omega)) gX7_wrong_X7_holeNamed rfl rfl rfl (by decide +kernel) ⟨by decide, by decide⟩ rfl hl.1 rfl (Nat.le_of_ble_eq_true rfl) ⟨Nat.zero_le _, Nat.zero_le _⟩ dX7_wrong_2 ?_
    refine lv_astore_nN (lv' := [(2, .null), (0, .ref (ad 0 0)), (1, .int (iI (a)))]) hx hb dX7_wrong_5 rfl hl (by decide) rfl (fun ls hl => ?_)
    refine lv_aload_nN hx hb dX7_wrong_6 rfl (lv_at hl 0 rfl) ?_
    refine lv_ifnonnullN hx hb dX7_wrong_7 ?_
    refine z_bipush hx hb dX7_wrong_10 (by decide) ?_
    exact c_iret hx hb hr hlocks (⟨trivial, hW⟩) hS hz (by unfold spWrong; repeat (first | rw [if_pos (by first | assumption | omega)] | rw [if_neg (by first | assumption | omega | (intro hk; exact hk (by assumption)))])) dX7_wrong_12
set_option maxHeartbeats 4000000 in
set_option maxRecDepth 100000 in
theorem c7_isWrong (l : Launch) (D : va_G) (cT : Nat → ClassId) (ad : Adr) (τ ρ : Tau) (hI : Inv τ) (a : Int) (h_a : I32 a) (k : Int) (h_k : I32 k)  : Met l yX7_isWrong wsX7_isWrong { frames := 4, cells := 0, slots := 0, locals := 93 } (cPc D cT ad τ ρ [.ref (ad 0 0), .int (iI (a)), .int (iI (k))]) (cQ D cT ad (some (.int (iI (spIsW τ a k)))) τ (τ) (fun _ => True)) 0 0 (CA ad τ) := by
  refine c_start (by decide) rfl (Nat.le_of_ble_eq_true rfl) ?_
  intro p e s m below meth c hx hb hr hlocks hml hts hown hW hK hNW ls hl
  have hinX1 : ∀ w ∈ wsX10, w ∈ wsX7_isWrong := by decide +kernel
  have hinX4 : ∀ w ∈ wsX40, w ∈ wsX7_isWrong := by decide +kernel
  have hinX7 : ∀ w ∈ wsX70, w ∈ wsX7_isWrong := by decide +kernel
  have hS : va_S (CA ad τ) s.heap s.heap [] := va_S.rf
  have hz : s.heap.size = s.heap.size := rfl
  have hR : Rng τ := hI.1
  have hl : lv_has ls 4 [(0, .ref (ad 0 0)), (1, .int (iI (a))), (2, .int (iI (k)))] := hl
  have hq4_atoNat : (0 : Int) ≤ τ 4 a.toNat ∧ τ 4 a.toNat ≤ 20 := hI.1 4 a.toNat
  have hme := me_r hI.1 a.toNat
  by_cases hh : 0 ≤ a ∧ a < τ 0 0
  · refine lv_aload_n hx hb dX7_isWrong_0 rfl (lv_at hl 0 rfl) ?_
    refine lv_iload_n hx hb dX7_isWrong_1 rfl (lv_at hl 1 rfl) ?_
    refine c_callR (n := 1) (As := [.int (iI (a))]) (rest := []) hx hb hml hts hown hK hNW hW (va_recv hK (cw0 hW) (ci := 7) (q0 := 0) rfl rfl) (c7_holeNamed_some l D cT ad τ ρ hI.1 a.toNat a (by omega) (by omega)) gX7_isWrong_X7_holeNamed rfl rfl rfl (by decide +kernel) ⟨by decide, by decide⟩ rfl hl.1 rfl (Nat.le_of_ble_eq_true rfl) ⟨Nat.zero_le _, Nat.zero_le _⟩ dX7_isWrong_2 ?_
    refine lv_astore_n (lv' := [(3, .ref (ad 11 a.toNat)), (0, .ref (ad 0 0)), (1, .int (iI (a))), (2, .int (iI (k)))]) hx hb dX7_isWrong_5 rfl hl (by decide) rfl (fun ls hl => ?_)
    refine lv_aload_n hx hb dX7_isWrong_6 rfl (lv_at hl 0 rfl) ?_
    refine lv_ifnull hx hb dX7_isWrong_7 ?_
    refine lv_iload_n hx hb dX7_isWrong_10 rfl (lv_at hl 3 rfl) ?_
    refine z_if_lt (tgt := 22) hx hb (by omega) dX7_isWrong_11 (by decide) (fun c1 => ?_) (fun c1 => ?_)
    · refine z_bipush hx hb dX7_isWrong_22 (by decide) ?_
      exact c_iret hx hb hr hlocks (⟨trivial, hW⟩) hS hz (by unfold spIsW; repeat (first | rw [if_pos (by first | assumption | omega)] | rw [if_neg (by first | assumption | omega | (intro hk; exact hk (by assumption)))])) dX7_isWrong_24
    · refine lv_iload_n hx hb dX7_isWrong_14 rfl (lv_at hl 3 rfl) ?_
      refine lv_aload_n hx hb dX7_isWrong_15 rfl (lv_at hl 0 rfl) ?_
      refine y_get (C := RX1) (T := TX1) (N := 8) (ref := "CoreShed$Hole") (ci := 1) hx hb hts hinX1 hown hK (cw11 hW (i := a.toNat) (by omega)) rfl 6 (by decide) (hts _ (by decide +kernel)) rfl (v := .int (iI (τ 4 a.toNat))) rfl dX7_isWrong_16 ?_
      have r2 : (0 : Int) ≤ τ 4 a.toNat ∧ τ 4 a.toNat ≤ 20 := hI.1 4 a.toNat
      refine z_icmp_lt (tgt := 25) hx hb (by omega) (by omega) dX7_isWrong_19 (by decide) (fun c3 => ?_) (fun c3 => ?_)
      · refine lv_aload_n hx hb dX7_isWrong_25 rfl (lv_at hl 1 rfl) ?_
        refine y_get (C := RX7) (T := TX7) (N := 11) (ref := "CoreShed") (ci := 7) hx hb hts hinX7 hown hK (cw0 hW) rfl 4 (by decide) (hts _ (by decide +kernel)) rfl (v := .ref (ad 5 0)) rfl dX7_isWrong_26 ?_
        refine lv_aload_n hx hb dX7_isWrong_29 rfl (lv_at hl 0 rfl) ?_
        refine c_callW (n := 1) (As := [.ref (ad 11 a.toNat)]) (rest := []) hx hb hml hts hown hK hNW hW (va_recv hK (cw5 hW) (ci := 4) (q0 := 0) rfl rfl) hS hz (fun q h => h) (c4_choose l D cT ad τ ρ hI a.toNat (by omega)) gX7_isWrong_X4_choose rfl rfl rfl (by decide +kernel) ⟨by decide, by decide⟩ rfl hl.1 rfl (Nat.le_of_ble_eq_true rfl) ⟨Nat.zero_le _, Nat.zero_le _⟩ dX7_isWrong_30 (fun ρ2 hq H locs hW hS hz => ?_)
        have hW : CW D cT ad τ ρ2 H := hW
        refine lv_pop hx hb dX7_isWrong_33 rfl ?_
        refine lv_aload_n hx hb dX7_isWrong_34 rfl (lv_at hl 1 rfl) ?_
        refine y_get (C := RX7) (T := TX7) (N := 11) (ref := "CoreShed") (ci := 7) hx hb hts hinX7 hown hK (cw0 hW) rfl 4 (by decide) (hts _ (by decide +kernel)) rfl (v := .ref (ad 5 0)) rfl dX7_isWrong_35 ?_
        refine y_get (C := RX4) (T := TX4) (N := 2) (ref := "CoreShed$Mend") (ci := 4) hx hb hts hinX4 hown hK (cw5 hW) rfl 1 (by decide) (hts _ (by decide +kernel)) rfl (v := .ref (ad 7 0)) rfl dX7_isWrong_38 ?_
        refine lv_iload_n hx hb dX7_isWrong_41 rfl (lv_at hl 3 rfl) ?_
        refine y_zald (j := k.toNat) hx hb hK 1 (cw7 hW) rfl (by omega) (by omega) (by decide) dX7_isWrong_42 ?_
        refine z_top (show ρ2 1 k.toNat = bI (rtP τ a.toNat k.toNat) from hq k.toNat (by omega)) ?_
        refine z_if_eqB (tgt := 50) hx hb dX7_isWrong_43 (by decide) (fun c4 => ?_) (fun c4 => ?_)
        · refine z_iconst hx hb dX7_isWrong_50 ?_
          exact c_iret hx hb hr hlocks (⟨trivial, hW⟩) hS hz (by unfold spIsW; rw [if_neg (by omega)]; rw [if_neg c4]) dX7_isWrong_51
        · refine z_iconst hx hb dX7_isWrong_46 ?_
          refine lv_goto (tgt := 51) hx hb dX7_isWrong_47 (by decide) ?_
          exact c_iret hx hb hr hlocks (⟨trivial, hW⟩) hS hz (by unfold spIsW; rw [if_neg (by omega)]; rw [if_pos c4]) dX7_isWrong_51
      · refine z_bipush hx hb dX7_isWrong_22 (by decide) ?_
        exact c_iret hx hb hr hlocks (⟨trivial, hW⟩) hS hz (by unfold spIsW; repeat (first | rw [if_pos (by first | assumption | omega)] | rw [if_neg (by first | assumption | omega | (intro hk; exact hk (by assumption)))])) dX7_isWrong_24
  · refine lv_aload_n hx hb dX7_isWrong_0 rfl (lv_at hl 0 rfl) ?_
    refine lv_iload_n hx hb dX7_isWrong_1 rfl (lv_at hl 1 rfl) ?_
    refine c_callR (n := 1) (As := [.int (iI (a))]) (rest := []) hx hb hml hts hown hK hNW hW (va_recv hK (cw0 hW) (ci := 7) (q0 := 0) rfl rfl) (c7_holeNamed_none l D cT ad τ ρ hI.1 a (by omega) (by omega)) gX7_isWrong_X7_holeNamed rfl rfl rfl (by decide +kernel) ⟨by decide, by decide⟩ rfl hl.1 rfl (Nat.le_of_ble_eq_true rfl) ⟨Nat.zero_le _, Nat.zero_le _⟩ dX7_isWrong_2 ?_
    refine lv_astore_nN (lv' := [(3, .null), (0, .ref (ad 0 0)), (1, .int (iI (a))), (2, .int (iI (k)))]) hx hb dX7_isWrong_5 rfl hl (by decide) rfl (fun ls hl => ?_)
    refine lv_aload_nN hx hb dX7_isWrong_6 rfl (lv_at hl 0 rfl) ?_
    refine lv_ifnullN (tgt := 22) hx hb dX7_isWrong_7 (by decide) ?_
    refine z_bipush hx hb dX7_isWrong_22 (by decide) ?_
    exact c_iret hx hb hr hlocks (⟨trivial, hW⟩) hS hz (by unfold spIsW; repeat (first | rw [if_pos (by first | assumption | omega)] | rw [if_neg (by first | assumption | omega | (intro hk; exact hk (by assumption)))])) dX7_isWrong_24
