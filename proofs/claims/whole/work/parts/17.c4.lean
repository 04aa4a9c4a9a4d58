theorem us_iff (τ : Tau) (h : Nat) : usO τ h = true ↔ ((0 < τ 8 (2 * h) ∨ 0 < τ 8 (2 * h + 1)) ∨ smB τ h = true) := by
  unfold usO usK smB
  rw [Bool.or_eq_true, Bool.or_eq_true, decide_eq_true_iff, decide_eq_true_iff]
theorem en_b {τ : Tau} (hR : Rng τ) (h : Nat) : enO τ h ≤ 1000 * τ 1 h := by
  have h1 := sm_rng (f := fun k => τ 2 (20 * h + k)) (lo := 0) (hi := 1000) (n := (τ 1 h).toNat) (fun k _ => hR 2 (20 * h + k))
  have h2 : (0 : Int) ≤ τ 1 h ∧ τ 1 h ≤ 20 := hR 1 h
  unfold enO
  omega
abbrev arT (τ : Tau) (h : Nat) (u v : Int) : Tau := tu (tu (tu (tu τ 2 (20 * h + (τ 1 h).toNat) u) 3 (20 * h + (τ 1 h).toNat) v) 1 h (τ 1 h + 1)) 27 h (τ 27 h + u)
abbrev alT (τ : Tau) (g : Nat) (u v : Int) : Tau := tu (tu (tu τ 9 (20 * g + (τ 8 g).toNat) u) 10 (20 * g + (τ 8 g).toNat) v) 8 g (τ 8 g + 1)
theorem td_tn (τ : Tau) (b q b2 : Nat) : tdO (tnT τ b q) b2 = tdO τ b2 := by unfold tdO tdK; rw [tn_n (show 19 ≠ 24 by decide), tn_n (show 23 ≠ 24 by decide)]
theorem live_tn {τ : Tau} {b q k i : Nat} : cLive (tnT τ b q) k i ↔ cLive τ k i := (live_tu (by decide) (by decide) (by decide) (by decide)).trans (live_tu (by decide) (by decide) (by decide) (by decide))
theorem CA_tn {ad : Adr} {τ : Tau} {b q : Nat} (a : Nat) (h : CA ad (tnT τ b q) a) : CA ad τ a := by
  obtain ⟨k, i, h1, h2⟩ := h
  exact ⟨k, i, live_tn.mp h1, h2⟩

theorem tu_swap {τ : Tau} {c d i j : Nat} {v w : Int} (h : c ≠ d) : tu (tu τ c i v) d j w = tu (tu τ d j w) c i v := by
  funext x
  by_cases h1 : x = d
  · subst h1
    rw [tu_c, tu_n (Ne.symm h), tu_n (Ne.symm h), tu_c]
  · by_cases h2 : x = c
    · subst h2
      rw [tu_n h, tu_c, tu_c, tu_n h]
    · rw [tu_n h1, tu_n h2, tu_n h2, tu_n h1]

set_option maxHeartbeats 4000000 in
set_option maxRecDepth 100000 in
theorem c1_addRun (l : Launch) (D : va_G) (cT : Nat → ClassId) (ad : Adr) (τ ρ : Tau) (hI : Rng τ) (h : Nat) (hlh : (h : Int) < τ 0 0) (u : Int) (h_u : I32 u) (v : Int) (h_v : I32 v) (hr20 : ¬ τ 1 h = 20) (hu : 1 ≤ u ∧ u ≤ 1000) (hv : 0 ≤ v ∧ v ≤ 1000) (hb : 0 ≤ τ 27 h ∧ τ 27 h + u ≤ 20000) : Met l yX1_addRun wsX1_addRun { frames := 0, cells := 0, slots := 0, locals := 0 } (cPc D cT ad τ ρ [.ref (ad 11 h), .int (iI (u)), .int (iI (v))]) (cQ D cT ad (none) τ (arT τ h u v) (fun _ => True)) 0 0 (CA ad τ) := by
  refine c_start (by decide) rfl (Nat.le_of_ble_eq_true rfl) ?_
  intro p e s m below meth c hx hb hr hlocks hml hts hown hW hK hNW ls hl
  have hinX1 : ∀ w ∈ wsX10, w ∈ wsX1_addRun := by decide +kernel
  have hS : va_S (CA ad τ) s.heap s.heap [] := va_S.rf
  have hz : s.heap.size = s.heap.size := rfl
  have hR : Rng τ := hI
  have hl : lv_has ls 3 [(0, .ref (ad 11 h)), (1, .int (iI (u))), (2, .int (iI (v)))] := hl
  have hf1 : (0 : Int) ≤ τ 1 h ∧ τ 1 h ≤ 20 := hI 1 h
  refine lv_aload_n hx hb dX1_addRun_0 rfl (lv_at hl 0 rfl) ?_
  refine y_get (C := RX1) (T := TX1) (N := 8) (ref := "CoreShed$Hole") (ci := 1) hx hb hts hinX1 hown hK (cw11 hW (i := h) (by omega)) rfl 0 (by decide) (hts _ (by decide +kernel)) rfl (v := .ref (ad 12 h)) rfl dX1_addRun_1 ?_
  refine lv_aload_n hx hb dX1_addRun_4 rfl (lv_at hl 0 rfl) ?_
  refine y_get (C := RX1) (T := TX1) (N := 8) (ref := "CoreShed$Hole") (ci := 1) hx hb hts hinX1 hown hK (cw11 hW (i := h) (by omega)) rfl 5 (by decide) (hts _ (by decide +kernel)) rfl (v := .int (iI (τ 1 h))) rfl dX1_addRun_5 ?_
  have r1 : (0 : Int) ≤ τ 1 h ∧ τ 1 h ≤ 20 := hI 1 h
  refine lv_iload_n hx hb dX1_addRun_8 rfl (lv_at hl 1 rfl) ?_
  refine y_iast (j := (τ 1 h).toNat) (v := u) hx hb hK hS 0 (cw12 hW (i := h) (by omega)) ⟨12, h, (show ((h : Nat) : Int) < τ 0 0 from by omega), rfl⟩ rfl (by omega) (by omega) (by decide) dX1_addRun_9 (fun H locs hO hz1 hoq hS => ?_)
  have hz := hz1.trans hz
  have hW := hW.put2 (i := h) (j := (τ 1 h).toNat) (show cLive _ 12 h from (show ((h : Nat) : Int) < τ 0 0 from by omega)) (by omega) hO hoq
  have hR := Rng.tu (c := 2) (i := 20 * h + ((τ 1 h).toNat)) (v := u) hR (show (0 : Int) ≤ (u) from by omega) (show (u) ≤ 1000 from by omega)
  refine lv_aload_n hx hb dX1_addRun_10 rfl (lv_at hl 0 rfl) ?_
  refine y_get (C := RX1) (T := TX1) (N := 8) (ref := "CoreShed$Hole") (ci := 1) hx hb hts hinX1 hown hK (cw11 hW (i := h) (by rw [tu_n (by decide)]; omega)) rfl 1 (by decide) (hts _ (by decide +kernel)) rfl (v := .ref (ad 13 h)) rfl dX1_addRun_11 ?_
  refine lv_aload_n hx hb dX1_addRun_14 rfl (lv_at hl 0 rfl) ?_
  refine y_get (C := RX1) (T := TX1) (N := 8) (ref := "CoreShed$Hole") (ci := 1) hx hb hts hinX1 hown hK (cw11 hW (i := h) (by rw [tu_n (by decide)]; omega)) rfl 5 (by decide) (hts _ (by decide +kernel)) rfl (v := .int (iI ((tu τ 2 (20 * h + ((τ 1 h).toNat)) u) 1 h))) rfl dX1_addRun_15 ?_
  refine z_top (show (tu τ 2 (20 * h + ((τ 1 h).toNat)) u) 1 h = τ 1 h from by rw [tu_n (show 1 ≠ 2 by decide)]) ?_
  refine lv_iload_n hx hb dX1_addRun_18 rfl (lv_at hl 2 rfl) ?_
  refine y_iast (j := (τ 1 h).toNat) (v := v) hx hb hK hS 0 (cw13 hW (i := h) (by rw [tu_n (by decide)]; omega)) ⟨13, h, (show ((h : Nat) : Int) < τ 0 0 from by omega), rfl⟩ rfl (by omega) (by omega) (by decide) dX1_addRun_19 (fun H locs hO hz1 hoq hS => ?_)
  have hz := hz1.trans hz
  have hW := hW.put3 (i := h) (j := (τ 1 h).toNat) (show cLive _ 13 h from ((live_tu (by decide) (by decide) (by decide) (by decide)).mpr (show ((h : Nat) : Int) < τ 0 0 from by omega))) (by omega) hO hoq
  have hR := Rng.tu (c := 3) (i := 20 * h + ((τ 1 h).toNat)) (v := v) hR (show (0 : Int) ≤ (v) from by omega) (show (v) ≤ 1000 from by omega)
  refine lv_aload_n hx hb dX1_addRun_20 rfl (lv_at hl 0 rfl) ?_
  refine lv_dup hx hb dX1_addRun_21 rfl ?_
  refine y_get (C := RX1) (T := TX1) (N := 8) (ref := "CoreShed$Hole") (ci := 1) hx hb hts hinX1 hown hK (cw11 hW (i := h) (by rw [tu_n (by decide), tu_n (by decide)]; omega)) rfl 5 (by decide) (hts _ (by decide +kernel)) rfl (v := .int (iI ((tu (tu τ 2 (20 * h + ((τ 1 h).toNat)) u) 3 (20 * h + ((τ 1 h).toNat)) v) 1 h))) rfl dX1_addRun_22 ?_
  refine z_top (show (tu (tu τ 2 (20 * h + ((τ 1 h).toNat)) u) 3 (20 * h + ((τ 1 h).toNat)) v) 1 h = τ 1 h from by rw [tu_n (show 1 ≠ 3 by decide), tu_n (show 1 ≠ 2 by decide)]) ?_
  refine z_iconst hx hb dX1_addRun_25 ?_
  refine z_iadd hx hb dX1_addRun_26 ?_
  refine y_put (C := RX1) (T := TX1) (N := 8) (ref := "CoreShed$Hole") (ci := 1) (v := .int (iI ((τ 1 h) + 1))) (ty := .int) hx hb hts hinX1 tyX1 tyX1_ok nmX1 hown hK hS (cw11 hW (i := h) (by rw [tu_n (by decide), tu_n (by decide)]; omega)) ⟨11, h, (show ((h : Nat) : Int) < τ 0 0 from by omega), rfl⟩ rfl 5 (by decide) (hts _ (by decide +kernel)) rfl rfl (by decide +kernel) rfl rfl (Nat.le_of_ble_eq_true rfl) dX1_addRun_27 (fun H locs hO hz1 hoq hS => ?_)
  have hz := hz1.trans hz
  have hW := hW.put1 (i := h) (show cLive _ 11 h from ((live_tu (by decide) (by decide) (by decide) (by decide)).mpr ((live_tu (by decide) (by decide) (by decide) (by decide)).mpr (show ((h : Nat) : Int) < τ 0 0 from by omega)))) hO hoq
  have hR := Rng.tu (c := 1) (i := h) (v := (τ 1 h) + 1) hR (show (0 : Int) ≤ ((τ 1 h) + 1) from by omega) (show ((τ 1 h) + 1) ≤ 20 from by omega)
  refine lv_aload_n hx hb dX1_addRun_30 rfl (lv_at hl 0 rfl) ?_
  refine lv_dup hx hb dX1_addRun_31 rfl ?_
  refine y_get (C := RX1) (T := TX1) (N := 8) (ref := "CoreShed$Hole") (ci := 1) hx hb hts hinX1 hown hK (cw11 hW (i := h) (by rw [tu_n (by decide), tu_n (by decide), tu_n (by decide)]; omega)) rfl 7 (by decide) (hts _ (by decide +kernel)) rfl (v := .int (iI ((tu (tu (tu τ 2 (20 * h + ((τ 1 h).toNat)) u) 3 (20 * h + ((τ 1 h).toNat)) v) 1 h ((τ 1 h) + 1)) 27 h))) rfl dX1_addRun_32 ?_
  refine z_top (show (tu (tu (tu τ 2 (20 * h + ((τ 1 h).toNat)) u) 3 (20 * h + ((τ 1 h).toNat)) v) 1 h ((τ 1 h) + 1)) 27 h = τ 27 h from by rw [tu_n (show 27 ≠ 1 by decide), tu_n (show 27 ≠ 3 by decide), tu_n (show 27 ≠ 2 by decide)]) ?_
  have r2 : (0 : Int) ≤ τ 27 h ∧ τ 27 h ≤ 20000 := hI 27 h
  refine lv_iload_n hx hb dX1_addRun_35 rfl (lv_at hl 1 rfl) ?_
  refine z_iadd hx hb dX1_addRun_36 ?_
  refine y_put (C := RX1) (T := TX1) (N := 8) (ref := "CoreShed$Hole") (ci := 1) (v := .int (iI ((τ 27 h) + u))) (ty := .int) hx hb hts hinX1 tyX1 tyX1_ok nmX1 hown hK hS (cw11 hW (i := h) (by rw [tu_n (by decide), tu_n (by decide), tu_n (by decide)]; omega)) ⟨11, h, (show ((h : Nat) : Int) < τ 0 0 from by omega), rfl⟩ rfl 7 (by decide) (hts _ (by decide +kernel)) rfl rfl (by decide +kernel) rfl rfl (Nat.le_of_ble_eq_true rfl) dX1_addRun_37 (fun H locs hO hz1 hoq hS => ?_)
  have hz := hz1.trans hz
  have hW := hW.put27 (i := h) (show cLive _ 11 h from ((live_tu (by decide) (by decide) (by decide) (by decide)).mpr ((live_tu (by decide) (by decide) (by decide) (by decide)).mpr ((live_tu (by decide) (by decide) (by decide) (by decide)).mpr (show ((h : Nat) : Int) < τ 0 0 from by omega))))) hO hoq
  have hR := Rng.tu (c := 27) (i := h) (v := (τ 27 h) + u) hR (show (0 : Int) ≤ ((τ 27 h) + u) from by omega) (show ((τ 27 h) + u) ≤ 20000 from by omega)
  exact c_vret hx hb hr hlocks (⟨trivial, hW⟩) hS hz dX1_addRun_40
set_option maxHeartbeats 4000000 in
set_option maxRecDepth 100000 in
theorem c2_add (l : Launch) (D : va_G) (cT : Nat → ClassId) (ad : Adr) (τ ρ : Tau) (hI : Rng τ) (g : Nat) (hlg : (g : Int) < 2 * τ 0 0) (u : Int) (h_u : I32 u) (v : Int) (h_v : I32 v) (hr20 : ¬ τ 8 g = 20) (hu : 0 ≤ u ∧ u ≤ 20000) (hv : 0 ≤ v ∧ v ≤ 9) : Met l yX2_add wsX2_add { frames := 0, cells := 0, slots := 0, locals := 0 } (cPc D cT ad τ ρ [.ref (ad 15 g), .int (iI (u)), .int (iI (v))]) (cQ D cT ad (none) τ (alT τ g u v) (fun _ => True)) 0 0 (CA ad τ) := by
  refine c_start (by decide) rfl (Nat.le_of_ble_eq_true rfl) ?_
  intro p e s m below meth c hx hb hr hlocks hml hts hown hW hK hNW ls hl
  have hinX2 : ∀ w ∈ wsX20, w ∈ wsX2_add := by decide +kernel
  have hS : va_S (CA ad τ) s.heap s.heap [] := va_S.rf
  have hz : s.heap.size = s.heap.size := rfl
  have hR : Rng τ := hI
  have hl : lv_has ls 3 [(0, .ref (ad 15 g)), (1, .int (iI (u))), (2, .int (iI (v)))] := hl
  have hf8 : (0 : Int) ≤ τ 8 g ∧ τ 8 g ≤ 20 := hI 8 g
  refine lv_aload_n hx hb dX2_add_0 rfl (lv_at hl 0 rfl) ?_
  refine y_get (C := RX2) (T := TX2) (N := 3) (ref := "CoreShed$Log") (ci := 2) hx hb hts hinX2 hown hK (cw15 hW (i := g) (by omega)) rfl 0 (by decide) (hts _ (by decide +kernel)) rfl (v := .ref (ad 16 g)) rfl dX2_add_1 ?_
  refine lv_aload_n hx hb dX2_add_4 rfl (lv_at hl 0 rfl) ?_
  refine y_get (C := RX2) (T := TX2) (N := 3) (ref := "CoreShed$Log") (ci := 2) hx hb hts hinX2 hown hK (cw15 hW (i := g) (by omega)) rfl 2 (by decide) (hts _ (by decide +kernel)) rfl (v := .int (iI (τ 8 g))) rfl dX2_add_5 ?_
  have r1 : (0 : Int) ≤ τ 8 g ∧ τ 8 g ≤ 20 := hI 8 g
  refine lv_iload_n hx hb dX2_add_8 rfl (lv_at hl 1 rfl) ?_
  refine y_iast (j := (τ 8 g).toNat) (v := u) hx hb hK hS 0 (cw16 hW (i := g) (by omega)) ⟨16, g, (show ((g : Nat) : Int) < 2 * τ 0 0 from by omega), rfl⟩ rfl (by omega) (by omega) (by decide) dX2_add_9 (fun H locs hO hz1 hoq hS => ?_)
  have hz := hz1.trans hz
  have hW := hW.put9 (i := g) (j := (τ 8 g).toNat) (show cLive _ 16 g from (show ((g : Nat) : Int) < 2 * τ 0 0 from by omega)) (by omega) hO hoq
  have hR := Rng.tu (c := 9) (i := 20 * g + ((τ 8 g).toNat)) (v := u) hR (show (0 : Int) ≤ (u) from by omega) (show (u) ≤ 20000 from by omega)
  refine lv_aload_n hx hb dX2_add_10 rfl (lv_at hl 0 rfl) ?_
  refine y_get (C := RX2) (T := TX2) (N := 3) (ref := "CoreShed$Log") (ci := 2) hx hb hts hinX2 hown hK (cw15 hW (i := g) (by rw [tu_n (by decide)]; omega)) rfl 1 (by decide) (hts _ (by decide +kernel)) rfl (v := .ref (ad 17 g)) rfl dX2_add_11 ?_
  refine lv_aload_n hx hb dX2_add_14 rfl (lv_at hl 0 rfl) ?_
  refine y_get (C := RX2) (T := TX2) (N := 3) (ref := "CoreShed$Log") (ci := 2) hx hb hts hinX2 hown hK (cw15 hW (i := g) (by rw [tu_n (by decide)]; omega)) rfl 2 (by decide) (hts _ (by decide +kernel)) rfl (v := .int (iI ((tu τ 9 (20 * g + ((τ 8 g).toNat)) u) 8 g))) rfl dX2_add_15 ?_
  refine z_top (show (tu τ 9 (20 * g + ((τ 8 g).toNat)) u) 8 g = τ 8 g from by rw [tu_n (show 8 ≠ 9 by decide)]) ?_
  refine lv_iload_n hx hb dX2_add_18 rfl (lv_at hl 2 rfl) ?_
  refine y_iast (j := (τ 8 g).toNat) (v := v) hx hb hK hS 0 (cw17 hW (i := g) (by rw [tu_n (by decide)]; omega)) ⟨17, g, (show ((g : Nat) : Int) < 2 * τ 0 0 from by omega), rfl⟩ rfl (by omega) (by omega) (by decide) dX2_add_19 (fun H locs hO hz1 hoq hS => ?_)
  have hz := hz1.trans hz
  have hW := hW.put10 (i := g) (j := (τ 8 g).toNat) (show cLive _ 17 g from ((live_tu (by decide) (by decide) (by decide) (by decide)).mpr (show ((g : Nat) : Int) < 2 * τ 0 0 from by omega))) (by omega) hO hoq
  have hR := Rng.tu (c := 10) (i := 20 * g + ((τ 8 g).toNat)) (v := v) hR (show (0 : Int) ≤ (v) from by omega) (show (v) ≤ 9 from by omega)
  refine lv_aload_n hx hb dX2_add_20 rfl (lv_at hl 0 rfl) ?_
  refine lv_dup hx hb dX2_add_21 rfl ?_
  refine y_get (C := RX2) (T := TX2) (N := 3) (ref := "CoreShed$Log") (ci := 2) hx hb hts hinX2 hown hK (cw15 hW (i := g) (by rw [tu_n (by decide), tu_n (by decide)]; omega)) rfl 2 (by decide) (hts _ (by decide +kernel)) rfl (v := .int (iI ((tu (tu τ 9 (20 * g + ((τ 8 g).toNat)) u) 10 (20 * g + ((τ 8 g).toNat)) v) 8 g))) rfl dX2_add_22 ?_
  refine z_top (show (tu (tu τ 9 (20 * g + ((τ 8 g).toNat)) u) 10 (20 * g + ((τ 8 g).toNat)) v) 8 g = τ 8 g from by rw [tu_n (show 8 ≠ 10 by decide), tu_n (show 8 ≠ 9 by decide)]) ?_
  refine z_iconst hx hb dX2_add_25 ?_
  refine z_iadd hx hb dX2_add_26 ?_
  refine y_put (C := RX2) (T := TX2) (N := 3) (ref := "CoreShed$Log") (ci := 2) (v := .int (iI ((τ 8 g) + 1))) (ty := .int) hx hb hts hinX2 tyX2 tyX2_ok nmX2 hown hK hS (cw15 hW (i := g) (by rw [tu_n (by decide), tu_n (by decide)]; omega)) ⟨15, g, (show ((g : Nat) : Int) < 2 * τ 0 0 from by omega), rfl⟩ rfl 2 (by decide) (hts _ (by decide +kernel)) rfl rfl (by decide +kernel) rfl rfl (Nat.le_of_ble_eq_true rfl) dX2_add_27 (fun H locs hO hz1 hoq hS => ?_)
  have hz := hz1.trans hz
  have hW := hW.put8 (i := g) (show cLive _ 15 g from ((live_tu (by decide) (by decide) (by decide) (by decide)).mpr ((live_tu (by decide) (by decide) (by decide) (by decide)).mpr (show ((g : Nat) : Int) < 2 * τ 0 0 from by omega)))) hO hoq
  have hR := Rng.tu (c := 8) (i := g) (v := (τ 8 g) + 1) hR (show (0 : Int) ≤ ((τ 8 g) + 1) from by omega) (show ((τ 8 g) + 1) ≤ 20 from by omega)
  exact c_vret hx hb hr hlocks (⟨trivial, hW⟩) hS hz dX2_add_30
set_option maxHeartbeats 4000000 in
set_option maxRecDepth 100000 in
theorem c7_run (l : Launch) (D : va_G) (cT : Nat → ClassId) (ad : Adr) (τ ρ : Tau) (hI : Inv τ) (a : Int) (h_a : I32 a) (u : Int) (h_u : I32 u) (v : Int) (h_v : I32 v)  : Met l yX7_run wsX7_run { frames := 1, cells := 0, slots := 0, locals := 22 } (cPc D cT ad τ ρ [.ref (ad 0 0), .int (iI (a)), .int (iI (u)), .int (iI (v))]) (cQ D cT ad (some (.int (iI (spRun τ a u v)))) τ (stRun τ a u v) (fun _ => True)) 0 0 (CA ad τ) := by
  refine c_start (by decide) rfl (Nat.le_of_ble_eq_true rfl) ?_
  intro p e s m below meth c hx hb hr hlocks hml hts hown hW hK hNW ls hl
  have hinX1 : ∀ w ∈ wsX10, w ∈ wsX7_run := by decide +kernel
  have hS : va_S (CA ad τ) s.heap s.heap [] := va_S.rf
  have hz : s.heap.size = s.heap.size := rfl
  have hR : Rng τ := hI.1
  have hl : lv_has ls 5 [(0, .ref (ad 0 0)), (1, .int (iI (a))), (2, .int (iI (u))), (3, .int (iI (v)))] := hl
  have hq0_0 : (0 : Int) ≤ τ 0 0 ∧ τ 0 0 ≤ 4 := hI.1 0 0
  have hq1_atoNat : (0 : Int) ≤ τ 1 a.toNat ∧ τ 1 a.toNat ≤ 20 := hI.1 1 a.toNat
  have hen := hI.2.1 a.toNat
  have hen2 := hI.en a.toNat
  have hen3 := en_b hI.1 a.toNat
  have hus := us_iff τ a.toNat
  by_cases hh : 0 ≤ a ∧ a < τ 0 0
  · refine lv_aload_n hx hb dX7_run_0 rfl (lv_at hl 0 rfl) ?_
    refine lv_iload_n hx hb dX7_run_1 rfl (lv_at hl 1 rfl) ?_
    refine c_callR (n := 1) (As := [.int (iI (a))]) (rest := []) hx hb hml hts hown hK hNW hW (va_recv hK (cw0 hW) (ci := 7) (q0 := 0) rfl rfl) (c7_holeNamed_some l D cT ad τ ρ hI.1 a.toNat a (by omega) (by omega)) gX7_run_X7_holeNamed rfl rfl rfl (by decide +kernel) ⟨by decide, by decide⟩ rfl hl.1 rfl (Nat.le_of_ble_eq_true rfl) ⟨Nat.zero_le _, Nat.zero_le _⟩ dX7_run_2 ?_
    refine lv_astore (lv' := [(4, .ref (ad 11 a.toNat)), (0, .ref (ad 0 0)), (1, .int (iI (a))), (2, .int (iI (u))), (3, .int (iI (v)))]) hx hb dX7_run_5 hl (by decide) rfl (fun ls hl => ?_)
    refine lv_aload hx hb dX7_run_7 (lv_at hl 0 rfl) ?_
    refine lv_ifnonnull (tgt := 15) hx hb dX7_run_9 (by decide) ?_
    refine lv_iload_n hx hb dX7_run_15 rfl (lv_at hl 3 rfl) ?_
    refine z_iconst hx hb dX7_run_16 ?_
    refine z_sipush hx hb dX7_run_17 (by decide) ?_
    refine s_call (n := 3) (As := [.int (iI (u)), .int (iI (1)), .int (iI (1000))]) (rest := []) hx hb hml hts hown (c7_isWithin l u (by omega) 1 (by omega) 1000 (by omega)) gX7_run_X7_isWithin rfl rfl rfl (by decide +kernel) ⟨by decide, by decide⟩ rfl hl.1 rfl (Nat.le_of_ble_eq_true rfl) ⟨Nat.zero_le _, Nat.zero_le _⟩ dX7_run_20 ?_
    refine z_if_eqB (tgt := 35) hx hb dX7_run_23 (by decide) (fun c1 => ?_) (fun c1 => ?_)
    · refine z_bipush hx hb dX7_run_35 (by decide) ?_
      exact c_iret hx hb hr hlocks (⟨trivial, by unfold stRun; rw [if_neg (fun hk => by first | omega | exact hk.1 (by assumption) | exact hk.2.1 (by assumption) | exact hk.2.2.1 (by assumption) | exact hk.2.2.2.1 (by assumption) | exact hk.2.2.2 (by assumption) | exact hk.2.2.2.2 (by assumption))]; exact hW⟩) hS hz (by unfold spRun; repeat (first | rw [if_pos (by first | assumption | omega)] | rw [if_neg (by first | assumption | omega | (intro hk; exact hk (by assumption)))])) dX7_run_37
    · refine lv_iload_n hx hb dX7_run_26 rfl (lv_at hl 4 rfl) ?_
      refine z_iconst hx hb dX7_run_27 ?_
      refine lv_iload_n hx hb dX7_run_28 rfl (lv_at hl 3 rfl) ?_
      refine s_call (n := 3) (As := [.int (iI (v)), .int (iI (0)), .int (iI (u))]) (rest := []) hx hb hml hts hown (c7_isWithin l v (by omega) 0 (by omega) u (by omega)) gX7_run_X7_isWithin rfl rfl rfl (by decide +kernel) ⟨by decide, by decide⟩ rfl hl.1 rfl (Nat.le_of_ble_eq_true rfl) ⟨Nat.zero_le _, Nat.zero_le _⟩ dX7_run_29 ?_
      refine z_if_neB (tgt := 38) hx hb dX7_run_32 (by decide) (fun c2 => ?_) (fun c2 => ?_)
      · refine lv_aload hx hb dX7_run_38 (lv_at hl 0 rfl) ?_
        refine c_call (n := 0) (As := []) (rest := []) hx hb hml hts hown hK hNW hW (va_recv hK (cw11 hW (i := a.toNat) (by omega)) (ci := 1) (q0 := 0) rfl rfl) (c1_isLogged l D cT ad τ ρ hI.1 a.toNat (by omega)) gX7_run_X1_isLogged rfl rfl rfl (by decide +kernel) ⟨by decide, by decide⟩ rfl hl.1 rfl (Nat.le_of_ble_eq_true rfl) ⟨Nat.zero_le _, Nat.zero_le _⟩ dX7_run_40 ?_
        refine z_if_neB (tgt := 54) hx hb dX7_run_43 (by decide) (fun c3 => ?_) (fun c3 => ?_)
        · have hu1 : usO τ a.toNat = true := hus.mpr (Or.inl c3)
          refine z_bipush hx hb dX7_run_54 (by decide) ?_
          exact c_iret hx hb hr hlocks (⟨trivial, by unfold stRun; rw [if_neg (fun hk => by first | omega | exact hk.1 (by assumption) | exact hk.2.1 (by assumption) | exact hk.2.2.1 (by assumption) | exact hk.2.2.2.1 (by assumption) | exact hk.2.2.2 (by assumption) | exact hk.2.2.2.2 (by assumption))]; exact hW⟩) hS hz (by unfold spRun; repeat (first | rw [if_pos (by first | assumption | omega)] | rw [if_neg (by first | assumption | omega | (intro hk; exact hk (by assumption)))])) dX7_run_56
        · refine lv_aload_n hx hb dX7_run_46 rfl (lv_at hl 1 rfl) ?_
          refine lv_iload_n hx hb dX7_run_47 rfl (lv_at hl 2 rfl) ?_
          refine c_call (n := 1) (As := [.int (iI (a))]) (rest := []) hx hb hml hts hown hK hNW hW (va_recv hK (cw0 hW) (ci := 7) (q0 := 0) rfl rfl) (c7_isSampled l D cT ad τ ρ hI.1 a (by omega)) gX7_run_X7_isSampled rfl rfl rfl (by decide +kernel) ⟨by decide, by decide⟩ rfl hl.1 rfl (Nat.le_of_ble_eq_true rfl) ⟨Nat.zero_le _, Nat.zero_le _⟩ dX7_run_48 ?_
          refine z_if_eqB (tgt := 57) hx hb dX7_run_51 (by decide) (fun c4 => ?_) (fun c4 => ?_)
          · have hu1 : ¬ usO τ a.toNat = true := fun hk => (hus.mp hk).elim (fun q => c3 q) (fun q => c4 (by rw [show ((a.toNat : Nat) : Int) = a by omega] at q; exact q))
            refine lv_aload hx hb dX7_run_57 (lv_at hl 0 rfl) ?_
            refine y_get (C := RX1) (T := TX1) (N := 8) (ref := "CoreShed$Hole") (ci := 1) hx hb hts hinX1 hown hK (cw11 hW (i := a.toNat) (by omega)) rfl 5 (by decide) (hts _ (by decide +kernel)) rfl (v := .int (iI (τ 1 a.toNat))) rfl dX7_run_59 ?_
            have r5 : (0 : Int) ≤ τ 1 a.toNat ∧ τ 1 a.toNat ≤ 20 := hI.1 1 a.toNat
            refine z_bipush hx hb dX7_run_62 (by decide) ?_
            refine z_icmp_lt (tgt := 70) hx hb (by omega) (by omega) dX7_run_64 (by decide) (fun c6 => ?_) (fun c6 => ?_)
            · refine lv_aload hx hb dX7_run_70 (lv_at hl 0 rfl) ?_
              refine lv_iload_n hx hb dX7_run_72 rfl (lv_at hl 3 rfl) ?_
              refine lv_iload_n hx hb dX7_run_73 rfl (lv_at hl 4 rfl) ?_
              refine c_callW (n := 2) (As := [.int (iI (u)), .int (iI (v))]) (rest := []) hx hb hml hts hown hK hNW hW (va_recv hK (cw11 hW (i := a.toNat) (by omega)) (ci := 1) (q0 := 0) rfl rfl) hS hz (fun q h => h) (c1_addRun l D cT ad τ ρ hI.1 a.toNat (by omega) u (by omega) v (by omega) (by omega) (by omega) (by omega) (by omega)) gX7_run_X1_addRun rfl rfl rfl (by decide +kernel) ⟨by decide, by decide⟩ rfl hl.1 rfl (Nat.le_of_ble_eq_true rfl) ⟨Nat.zero_le _, Nat.zero_le _⟩ dX7_run_74 (fun ρ2 hq H locs hW hS hz => ?_)
              have hW : CW D cT ad (tu (tu (tu (tu τ 2 (20 * a.toNat + (τ 1 a.toNat).toNat) u) 3 (20 * a.toNat + (τ 1 a.toNat).toNat) v) 1 a.toNat (τ 1 a.toNat + 1)) 27 a.toNat (τ 27 a.toNat + u)) ρ2 H := hW
              have hR := Rng.tu (c := 2) (i := 20 * a.toNat + (τ 1 a.toNat).toNat) (v := u) hR (show (0 : Int) ≤ u from by omega) (show u ≤ 1000 from by omega)
              have hR := Rng.tu (c := 3) (i := 20 * a.toNat + (τ 1 a.toNat).toNat) (v := v) hR (show (0 : Int) ≤ v from by omega) (show v ≤ 1000 from by omega)
              have hR := Rng.tu (c := 1) (i := a.toNat) (v := τ 1 a.toNat + 1) hR (show (0 : Int) ≤ τ 1 a.toNat + 1 from by omega) (show τ 1 a.toNat + 1 ≤ 20 from by omega)
              have hR := Rng.tu (c := 27) (i := a.toNat) (v := τ 27 a.toNat + u) hR (show (0 : Int) ≤ τ 27 a.toNat + u from by omega) (show τ 27 a.toNat + u ≤ 20000 from by omega)
              refine lv_aload hx hb dX7_run_77 (lv_at hl 0 rfl) ?_
              refine y_get (C := RX1) (T := TX1) (N := 8) (ref := "CoreShed$Hole") (ci := 1) hx hb hts hinX1 hown hK (cw11 hW (i := a.toNat) (by rw [tu_n (by decide), tu_n (by decide), tu_n (by decide), tu_n (by decide)]; omega)) rfl 7 (by decide) (hts _ (by decide +kernel)) rfl (v := .int (iI ((tu (tu (tu (tu τ 2 (20 * a.toNat + (τ 1 a.toNat).toNat) u) 3 (20 * a.toNat + (τ 1 a.toNat).toNat) v) 1 a.toNat (τ 1 a.toNat + 1)) 27 a.toNat (τ 27 a.toNat + u)) 27 a.toNat))) rfl dX7_run_79 ?_
              refine z_top (show (tu (tu (tu (tu τ 2 (20 * a.toNat + (τ 1 a.toNat).toNat) u) 3 (20 * a.toNat + (τ 1 a.toNat).toNat) v) 1 a.toNat (τ 1 a.toNat + 1)) 27 a.toNat (τ 27 a.toNat + u)) 27 a.toNat = τ 27 a.toNat + u from by rw [tu_s]) ?_
              exact c_iret hx hb hr hlocks (⟨trivial, by unfold stRun; rw [if_pos (by refine ⟨?_, ?_, ?_, ?_⟩ <;> first | omega | assumption)]; exact hW⟩) hS hz (by unfold spRun; rw [if_neg (by omega), if_neg (by omega), if_neg (by assumption), if_neg (by omega)]; omega) dX7_run_82
            · refine z_bipush hx hb dX7_run_67 (by decide) ?_
              exact c_iret hx hb hr hlocks (⟨trivial, by unfold stRun; rw [if_neg (fun hk => by first | omega | exact hk.1 (by assumption) | exact hk.2.1 (by assumption) | exact hk.2.2.1 (by assumption) | exact hk.2.2.2.1 (by assumption) | exact hk.2.2.2 (by assumption) | exact hk.2.2.2.2 (by assumption))]; exact hW⟩) hS hz (by unfold spRun; repeat (first | rw [if_pos (by first | assumption | omega)] | rw [if_neg (by first | assumption | omega | (intro hk; exact hk (by assumption)))])) dX7_run_69
          · have hu1 : usO τ a.toNat = true := hus.mpr (Or.inr (by rw [show ((a.toNat : Nat) : Int) = a by omega]; exact c4))
            refine z_bipush hx hb dX7_run_54 (by decide) ?_
            exact c_iret hx hb hr hlocks (⟨trivial, by unfold stRun; rw [if_neg (fun hk => by first | omega | exact hk.1 (by assumption) | exact hk.2.1 (by assumption) | exact hk.2.2.1 (by assumption) | exact hk.2.2.2.1 (by assumption) | exact hk.2.2.2 (by assumption) | exact hk.2.2.2.2 (by assumption))]; exact hW⟩) hS hz (by unfold spRun; repeat (first | rw [if_pos (by first | assumption | omega)] | rw [if_neg (by first | assumption | omega | (intro hk; exact hk (by assumption)))])) dX7_run_56
      · refine z_bipush hx hb dX7_run_35 (by decide) ?_
        exact c_iret hx hb hr hlocks (⟨trivial, by unfold stRun; rw [if_neg (fun hk => by first | omega | exact hk.1 (by assumption) | exact hk.2.1 (by assumption) | exact hk.2.2.1 (by assumption) | exact hk.2.2.2.1 (by assumption) | exact hk.2.2.2 (by assumption) | exact hk.2.2.2.2 (by assumption))]; exact hW⟩) hS hz (by unfold spRun; repeat (first | rw [if_pos (by first | assumption | omega)] | rw [if_neg (by first | assumption | omega | (intro hk; exact hk (by assumption)))])) dX7_run_37
  · refine lv_aload_n hx hb dX7_run_0 rfl (lv_at hl 0 rfl) ?_
    refine lv_iload_n hx hb dX7_run_1 rfl (lv_at hl 1 rfl) ?_
    refine c_callR (n := 1) (As := [.int (iI (a))]) (rest := []) hx hb hml hts hown hK hNW hW (va_recv hK (cw0 hW) (ci := 7) (q0 := 0) rfl rfl) (c7_holeNamed_none l D cT ad τ ρ hI.1 a (by omega) (by omega)) gX7_run_X7_holeNamed rfl rfl rfl (by decide +kernel) ⟨by decide, by decide⟩ rfl hl.1 rfl (Nat.le_of_ble_eq_true rfl) ⟨Nat.zero_le _, Nat.zero_le _⟩ dX7_run_2 ?_
    refine lv_astoreN (lv' := [(4, .null), (0, .ref (ad 0 0)), (1, .int (iI (a))), (2, .int (iI (u))), (3, .int (iI (v)))]) hx hb dX7_run_5 hl (by decide) rfl (fun ls hl => ?_)
    refine lv_aloadN hx hb dX7_run_7 (lv_at hl 0 rfl) ?_
    refine lv_ifnonnullN hx hb dX7_run_9 ?_
    refine z_bipush hx hb dX7_run_12 (by decide) ?_
    exact c_iret hx hb hr hlocks (⟨trivial, by unfold stRun; rw [if_neg (fun hk => by first | omega | exact hk.1 (by assumption) | exact hk.2.1 (by assumption) | exact hk.2.2.1 (by assumption) | exact hk.2.2.2.1 (by assumption) | exact hk.2.2.2 (by assumption) | exact hk.2.2.2.2 (by assumption))]; exact hW⟩) hS hz (by unfold spRun; repeat (first | rw [if_pos (by first | assumption | omega)] | rw [if_neg (by first | assumption | omega | (intro hk; exact hk (by assumption)))])) dX7_run_14
set_option maxHeartbeats 4000000 in
set_option maxRecDepth 100000 in
theorem c7_mark (l : Launch) (D : va_G) (cT : Nat → ClassId) (ad : Adr) (τ ρ : Tau) (hI : Inv τ) (a : Int) (h_a : I32 a) (u : Int) (h_u : I32 u)  : Met l yX7_mark wsX7_mark { frames := 1, cells := 0, slots := 0, locals := 22 } (cPc D cT ad τ ρ [.ref (ad 0 0), .int (iI (a)), .int (iI (u))]) (cQ D cT ad (some (.int (iI (spMark τ a u)))) τ (stMark τ a u) (fun _ => True)) 0 0 (CA ad τ) := by
  refine c_start (by decide) rfl (Nat.le_of_ble_eq_true rfl) ?_
  intro p e s m below meth c hx hb hr hlocks hml hts hown hW hK hNW ls hl
  have hinX1 : ∀ w ∈ wsX10, w ∈ wsX7_mark := by decide +kernel
  have hS : va_S (CA ad τ) s.heap s.heap [] := va_S.rf
  have hz : s.heap.size = s.heap.size := rfl
  have hR : Rng τ := hI.1
  have hl : lv_has ls 4 [(0, .ref (ad 0 0)), (1, .int (iI (a))), (2, .int (iI (u)))] := hl
  have hq0_0 : (0 : Int) ≤ τ 0 0 ∧ τ 0 0 ≤ 4 := hI.1 0 0
  have hq4_atoNat : (0 : Int) ≤ τ 4 a.toNat ∧ τ 4 a.toNat ≤ 20 := hI.1 4 a.toNat
  by_cases hh : 0 ≤ a ∧ a < τ 0 0
  · refine lv_aload_n hx hb dX7_mark_0 rfl (lv_at hl 0 rfl) ?_
    refine lv_iload_n hx hb dX7_mark_1 rfl (lv_at hl 1 rfl) ?_
    refine c_callR (n := 1) (As := [.int (iI (a))]) (rest := []) hx hb hml hts hown hK hNW hW (va_recv hK (cw0 hW) (ci := 7) (q0 := 0) rfl rfl) (c7_holeNamed_some l D cT ad τ ρ hI.1 a.toNat a (by omega) (by omega)) gX7_mark_X7_holeNamed rfl rfl rfl (by decide +kernel) ⟨by decide, by decide⟩ rfl hl.1 rfl (Nat.le_of_ble_eq_true rfl) ⟨Nat.zero_le _, Nat.zero_le _⟩ dX7_mark_2 ?_
    refine lv_astore_n (lv' := [(3, .ref (ad 11 a.toNat)), (0, .ref (ad 0 0)), (1, .int (iI (a))), (2, .int (iI (u)))]) hx hb dX7_mark_5 rfl hl (by decide) rfl (fun ls hl => ?_)
    refine lv_aload_n hx hb dX7_mark_6 rfl (lv_at hl 0 rfl) ?_
    refine lv_ifnonnull (tgt := 13) hx hb dX7_mark_7 (by decide) ?_
    refine lv_iload_n hx hb dX7_mark_13 rfl (lv_at hl 3 rfl) ?_
    refine z_iconst hx hb dX7_mark_14 ?_
    refine z_ldc (n := 100000) hx hb hown (hts (.constant RX7 90 (100000)) (by decide +kernel)) (by decide) dX7_mark_15 ?_
    refine s_call (n := 3) (As := [.int (iI (u)), .int (iI (0)), .int (iI (100000))]) (rest := []) hx hb hml hts hown (c7_isWithin l u (by omega) 0 (by omega) 100000 (by omega)) gX7_mark_X7_isWithin rfl rfl rfl (by decide +kernel) ⟨by decide, by decide⟩ rfl hl.1 rfl (Nat.le_of_ble_eq_true rfl) ⟨Nat.zero_le _, Nat.zero_le _⟩ dX7_mark_17 ?_
    refine z_if_neB (tgt := 26) hx hb dX7_mark_20 (by decide) (fun c1 => ?_) (fun c1 => ?_)
    · refine lv_aload_n hx hb dX7_mark_26 rfl (lv_at hl 0 rfl) ?_
      refine y_get (C := RX1) (T := TX1) (N := 8) (ref := "CoreShed$Hole") (ci := 1) hx hb hts hinX1 hown hK (cw11 hW (i := a.toNat) (by omega)) rfl 6 (by decide) (hts _ (by decide +kernel)) rfl (v := .int (iI (τ 4 a.toNat))) rfl dX7_mark_27 ?_
      have r2 : (0 : Int) ≤ τ 4 a.toNat ∧ τ 4 a.toNat ≤ 20 := hI.1 4 a.toNat
      refine z_bipush hx hb dX7_mark_30 (by decide) ?_
      refine z_icmp_lt (tgt := 38) hx hb (by omega) (by omega) dX7_mark_32 (by decide) (fun c3 => ?_) (fun c3 => ?_)
      · refine lv_aload_n hx hb dX7_mark_38 rfl (lv_at hl 0 rfl) ?_
        refine y_get (C := RX1) (T := TX1) (N := 8) (ref := "CoreShed$Hole") (ci := 1) hx hb hts hinX1 hown hK (cw11 hW (i := a.toNat) (by omega)) rfl 2 (by decide) (hts _ (by decide +kernel)) rfl (v := .ref (ad 14 a.toNat)) rfl dX7_mark_39 ?_
        refine lv_aload_n hx hb dX7_mark_42 rfl (lv_at hl 0 rfl) ?_
        refine y_get (C := RX1) (T := TX1) (N := 8) (ref := "CoreShed$Hole") (ci := 1) hx hb hts hinX1 hown hK (cw11 hW (i := a.toNat) (by omega)) rfl 6 (by decide) (hts _ (by decide +kernel)) rfl (v := .int (iI (τ 4 a.toNat))) rfl dX7_mark_43 ?_
        refine lv_iload_n hx hb dX7_mark_46 rfl (lv_at hl 3 rfl) ?_
        refine y_iast (j := (τ 4 a.toNat).toNat) (v := u) hx hb hK hS 0 (cw14 hW (i := a.toNat) (by omega)) ⟨14, a.toNat, (show ((a.toNat : Nat) : Int) < τ 0 0 from by omega), rfl⟩ rfl (by omega) (by omega) (by decide) dX7_mark_47 (fun H locs hO hz1 hoq hS => ?_)
        have hz := hz1.trans hz
        have hW := hW.put5 (i := a.toNat) (j := (τ 4 a.toNat).toNat) (show cLive _ 14 a.toNat from (show ((a.toNat : Nat) : Int) < τ 0 0 from by omega)) (by omega) hO hoq
        have hR := Rng.tu (c := 5) (i := 20 * a.toNat + ((τ 4 a.toNat).toNat)) (v := u) hR (show (0 : Int) ≤ (u) from by omega) (show (u) ≤ 100000 from by omega)
        refine lv_aload_n hx hb dX7_mark_48 rfl (lv_at hl 0 rfl) ?_
        refine lv_dup hx hb dX7_mark_49 rfl ?_
        refine y_get (C := RX1) (T := TX1) (N := 8) (ref := "CoreShed$Hole") (ci := 1) hx hb hts hinX1 hown hK (cw11 hW (i := a.toNat) (by rw [tu_n (by decide)]; omega)) rfl 6 (by decide) (hts _ (by decide +kernel)) rfl (v := .int (iI ((tu τ 5 (20 * a.toNat + ((τ 4 a.toNat).toNat)) u) 4 a.toNat))) rfl dX7_mark_50 ?_
        refine z_top (show (tu τ 5 (20 * a.toNat + ((τ 4 a.toNat).toNat)) u) 4 a.toNat = τ 4 a.toNat from by rw [tu_n (show 4 ≠ 5 by decide)]) ?_
        refine z_iconst hx hb dX7_mark_53 ?_
        refine z_iadd hx hb dX7_mark_54 ?_
        refine y_put (C := RX1) (T := TX1) (N := 8) (ref := "CoreShed$Hole") (ci := 1) (v := .int (iI ((τ 4 a.toNat) + 1))) (ty := .int) hx hb hts hinX1 tyX1 tyX1_ok nmX1 hown hK hS (cw11 hW (i := a.toNat) (by rw [tu_n (by decide)]; omega)) ⟨11, a.toNat, (show ((a.toNat : Nat) : Int) < τ 0 0 from by omega), rfl⟩ rfl 6 (by decide) (hts _ (by decide +kernel)) rfl rfl (by decide +kernel) rfl rfl (Nat.le_of_ble_eq_true rfl) dX7_mark_55 (fun H locs hO hz1 hoq hS => ?_)
        have hz := hz1.trans hz
        have hW := hW.put4 (i := a.toNat) (show cLive _ 11 a.toNat from ((live_tu (by decide) (by decide) (by decide) (by decide)).mpr (show ((a.toNat : Nat) : Int) < τ 0 0 from by omega))) hO hoq
        have hR := Rng.tu (c := 4) (i := a.toNat) (v := (τ 4 a.toNat) + 1) hR (show (0 : Int) ≤ ((τ 4 a.toNat) + 1) from by omega) (show ((τ 4 a.toNat) + 1) ≤ 20 from by omega)
        refine lv_aload_n hx hb dX7_mark_58 rfl (lv_at hl 0 rfl) ?_
        refine y_get (C := RX1) (T := TX1) (N := 8) (ref := "CoreShed$Hole") (ci := 1) hx hb hts hinX1 hown hK (cw11 hW (i := a.toNat) (by rw [tu_n (by decide), tu_n (by decide)]; omega)) rfl 6 (by decide) (hts _ (by decide +kernel)) rfl (v := .int (iI ((tu (tu τ 5 (20 * a.toNat + ((τ 4 a.toNat).toNat)) u) 4 a.toNat ((τ 4 a.toNat) + 1)) 4 a.toNat))) rfl dX7_mark_59 ?_
        refine z_top (show (tu (tu τ 5 (20 * a.toNat + ((τ 4 a.toNat).toNat)) u) 4 a.toNat ((τ 4 a.toNat) + 1)) 4 a.toNat = (τ 4 a.toNat) + 1 from by rw [tu_s]) ?_
        exact c_iret hx hb hr hlocks (⟨trivial, by unfold stMark; rw [if_pos (by refine ⟨?_, ?_, ?_⟩ <;> first | omega | assumption)]; exact hW⟩) hS hz (by unfold spMark; repeat (first | rw [if_pos (by first | assumption | omega)] | rw [if_neg (by first | assumption | omega | (intro hk; exact hk (by assumption)))])) dX7_mark_62
      · refine z_bipush hx hb dX7_mark_35 (by decide) ?_
        exact c_iret hx hb hr hlocks (⟨trivial, by unfold stMark; rw [if_neg (fun hk => by first | omega | exact hk.1 (by assumption) | exact hk.2.1 (by assumption) | exact hk.2.2.1 (by assumption) | exact hk.2.2.2.1 (by assumption) | exact hk.2.2.2 (by assumption) | exact hk.2.2.2.2 (by assumption))]; exact hW⟩) hS hz (by unfold spMark; repeat (first | rw [if_pos (by first | assumption | omega)] | rw [if_neg (by first | assumption | omega | (intro hk; exact hk (by assumption)))])) dX7_mark_37
    · refine z_bipush hx hb dX7_mark_23 (by decide) ?_
      exact c_iret hx hb hr hlocks (⟨trivial, by unfold stMark; rw [if_neg (fun hk => by first | omega | exact hk.1 (by assumption) | exact hk.2.1 (by assumption) | exact hk.2.2.1 (by assumption) | exact hk.2.2.2.1 (by assumption) | exact hk.2.2.2 (by assumption) | exact hk.2.2.2.2 (by assumption))]; exact hW⟩) hS hz (by unfold spMark; repeat (first | rw [if_pos (by first | assumption | omega)] | rw [if_neg (by first | assumption | omega | (intro hk; exact hk (by assumption)))])) dX7_mark_25
  · refine lv_aload_n hx hb dX7_mark_0 rfl (lv_at hl 0 rfl) ?_
    refine lv_iload_n hx hb dX7_mark_1 rfl (lv_at hl 1 rfl) ?_
    refine c_callR (n := 1) (As := [.int (iI (a))]) (rest := []) hx hb hml hts hown hK hNW hW (va_recv hK (cw0 hW) (ci := 7) (q0 := 0) rfl rfl) (c7_holeNamed_none l D cT ad τ ρ hI.1 a (by omega) (by omega)) gX7_mark_X7_holeNamed rfl rfl rfl (by decide +kernel) ⟨by decide, by decide⟩ rfl hl.1 rfl (Nat.le_of_ble_eq_true rfl) ⟨Nat.zero_le _, Nat.zero_le _⟩ dX7_mark_2 ?_
    refine lv_astore_nN (lv' := [(3, .null), (0, .ref (ad 0 0)), (1, .int (iI (a))), (2, .int (iI (u)))]) hx hb dX7_mark_5 rfl hl (by decide) rfl (fun ls hl => ?_)
    refine lv_aload_nN hx hb dX7_mark_6 rfl (lv_at hl 0 rfl) ?_
    refine lv_ifnonnullN hx hb dX7_mark_7 ?_
    refine z_bipush hx hb dX7_mark_10 (by decide) ?_
    exact c_iret hx hb hr hlocks (⟨trivial, by unfold stMark; rw [if_neg (fun hk => by first | omega | exact hk.1 (by assumption) | exact hk.2.1 (by assumption) | exact hk.2.2.1 (by assumption) | exact hk.2.2.2.1 (by assumption) | exact hk.2.2.2 (by assumption) | exact hk.2.2.2.2 (by assumption))]; exact hW⟩) hS hz (by unfold spMark; repeat (first | rw [if_pos (by first | assumption | omega)] | rw [if_neg (by first | assumption | omega | (intro hk; exact hk (by assumption)))])) dX7_mark_12
set_option maxHeartbeats 4000000 in
set_option maxRecDepth 100000 in
theorem c7_layer (l : Launch) (D : va_G) (cT : Nat → ClassId) (ad : Adr) (τ ρ : Tau) (hI : Inv τ) (a : Int) (h_a : I32 a) (b : Int) (h_b : I32 b) (u : Int) (h_u : I32 u) (v : Int) (h_v : I32 v)  : Met l yX7_layer wsX7_layer { frames := 2, cells := 0, slots := 0, locals := 44 } (cPc D cT ad τ ρ [.ref (ad 0 0), .int (iI (a)), .int (iI (b)), .int (iI (u)), .int (iI (v))]) (cQ D cT ad (some (.int (iI (spLayer τ a b u v)))) τ (stLayer τ a b u v) (fun _ => True)) 0 0 (CA ad τ) := by
  refine c_start (by decide) rfl (Nat.le_of_ble_eq_true rfl) ?_
  intro p e s m below meth c hx hb hr hlocks hml hts hown hW hK hNW ls hl
  have hinX1 : ∀ w ∈ wsX10, w ∈ wsX7_layer := by decide +kernel
  have hinX2 : ∀ w ∈ wsX20, w ∈ wsX7_layer := by decide +kernel
  have hS : va_S (CA ad τ) s.heap s.heap [] := va_S.rf
  have hz : s.heap.size = s.heap.size := rfl
  have hR : Rng τ := hI.1
  have hl : lv_has ls 7 [(0, .ref (ad 0 0)), (1, .int (iI (a))), (2, .int (iI (b))), (3, .int (iI (u))), (4, .int (iI (v)))] := hl
  have hq0_0 : (0 : Int) ≤ τ 0 0 ∧ τ 0 0 ≤ 4 := hI.1 0 0
  have hq8_2atoNatbtoNat : (0 : Int) ≤ τ 8 (2 * a.toNat + b.toNat) ∧ τ 8 (2 * a.toNat + b.toNat) ≤ 20 := hI.1 8 (2 * a.toNat + b.toNat)
  have hen := hI.2.1 a.toNat
  have hen2 := hI.en a.toNat
  have hfr := fr_r hI.1 (2 * a.toNat + b.toNat) (τ 8 (2 * a.toNat + b.toNat)).toNat
  by_cases hh : 0 ≤ a ∧ a < τ 0 0
  · by_cases hb1 : 0 ≤ b ∧ b ≤ 1
    · refine lv_aload_n hx hb dX7_layer_0 rfl (lv_at hl 0 rfl) ?_
      refine lv_iload_n hx hb dX7_layer_1 rfl (lv_at hl 1 rfl) ?_
      refine c_callR (n := 1) (As := [.int (iI (a))]) (rest := []) hx hb hml hts hown hK hNW hW (va_recv hK (cw0 hW) (ci := 7) (q0 := 0) rfl rfl) (c7_holeNamed_some l D cT ad τ ρ hI.1 a.toNat a (by omega) (by omega)) gX7_layer_X7_holeNamed rfl rfl rfl (by decide +kernel) ⟨by decide, by decide⟩ rfl hl.1 rfl (Nat.le_of_ble_eq_true rfl) ⟨Nat.zero_le _, Nat.zero_le _⟩ dX7_layer_2 ?_
      refine lv_astore (lv' := [(5, .ref (ad 11 a.toNat)), (0, .ref (ad 0 0)), (1, .int (iI (a))), (2, .int (iI (b))), (3, .int (iI (u))), (4, .int (iI (v)))]) hx hb dX7_layer_5 hl (by decide) rfl (fun ls hl => ?_)
      refine lv_aload_n hx hb dX7_layer_7 rfl (lv_at hl 1 rfl) ?_
      refine lv_iload_n hx hb dX7_layer_8 rfl (lv_at hl 2 rfl) ?_
      refine lv_iload_n hx hb dX7_layer_9 rfl (lv_at hl 3 rfl) ?_
      refine c_callR (n := 2) (As := [.int (iI (a)), .int (iI (b))]) (rest := []) hx hb hml hts hown hK hNW hW (va_recv hK (cw0 hW) (ci := 7) (q0 := 0) rfl rfl) (c7_logNamed_some l D cT ad τ ρ hI.1 a.toNat a (by omega) b.toNat b (by omega) (by omega) (by omega)) gX7_layer_X7_logNamed rfl rfl rfl (by decide +kernel) ⟨by decide, by decide⟩ rfl hl.1 rfl (Nat.le_of_ble_eq_true rfl) ⟨Nat.zero_le _, Nat.zero_le _⟩ dX7_layer_10 ?_
      refine lv_astore (lv' := [(6, .ref (ad 15 (2 * a.toNat + b.toNat))), (5, .ref (ad 11 a.toNat)), (0, .ref (ad 0 0)), (1, .int (iI (a))), (2, .int (iI (b))), (3, .int (iI (u))), (4, .int (iI (v)))]) hx hb dX7_layer_13 hl (by decide) rfl (fun ls hl => ?_)
      refine lv_aload hx hb dX7_layer_15 (lv_at hl 1 rfl) ?_
      refine lv_ifnull hx hb dX7_layer_17 ?_
      refine lv_aload hx hb dX7_layer_20 (lv_at hl 0 rfl) ?_
      refine lv_ifnonnull (tgt := 28) hx hb dX7_layer_22 (by decide) ?_
      refine lv_iload_n hx hb dX7_layer_28 rfl (lv_at hl 5 rfl) ?_
      refine lv_aload hx hb dX7_layer_29 (lv_at hl 0 rfl) ?_
      refine c_call (n := 0) (As := []) (rest := [.int (iI (u))]) hx hb hml hts hown hK hNW hW (va_recv hK (cw15 hW (i := 2 * a.toNat + b.toNat) (by omega)) (ci := 2) (q0 := 0) rfl rfl) (c2_bottom l D cT ad τ ρ hI.1 (2 * a.toNat + b.toNat) (by omega)) gX7_layer_X2_bottom rfl rfl rfl (by decide +kernel) ⟨by decide, by decide⟩ rfl hl.1 rfl (Nat.le_of_ble_eq_true rfl) ⟨Nat.zero_le _, Nat.zero_le _⟩ dX7_layer_31 ?_
      have r1 := fr_r hI.1 (2 * a.toNat + b.toNat) (τ 8 (2 * a.toNat + b.toNat)).toNat
      refine z_iconst hx hb dX7_layer_34 ?_
      refine z_iadd hx hb dX7_layer_35 ?_
      refine lv_aload hx hb dX7_layer_36 (lv_at hl 1 rfl) ?_
      refine y_get (C := RX1) (T := TX1) (N := 8) (ref := "CoreShed$Hole") (ci := 1) hx hb hts hinX1 hown hK (cw11 hW (i := a.toNat) (by omega)) rfl 7 (by decide) (hts _ (by decide +kernel)) rfl (v := .int (iI (τ 27 a.toNat))) rfl dX7_layer_38 ?_
      have r2 : (0 : Int) ≤ τ 27 a.toNat ∧ τ 27 a.toNat ≤ 20000 := hI.1 27 a.toNat
      refine s_call (n := 3) (As := [.int (iI (u)), .int (iI ((frO τ (2 * a.toNat + b.toNat) (τ 8 (2 * a.toNat + b.toNat)).toNat) + 1)), .int (iI (τ 27 a.toNat))]) (rest := []) hx hb hml hts hown (c7_isWithin l u (by omega) ((frO τ (2 * a.toNat + b.toNat) (τ 8 (2 * a.toNat + b.toNat)).toNat) + 1) (by omega) (τ 27 a.toNat) (by omega)) gX7_layer_X7_isWithin rfl rfl rfl (by decide +kernel) ⟨by decide, by decide⟩ rfl hl.1 rfl (Nat.le_of_ble_eq_true rfl) ⟨Nat.zero_le _, Nat.zero_le _⟩ dX7_layer_41 ?_
      refine z_if_eqB (tgt := 55) hx hb dX7_layer_44 (by decide) (fun c3 => ?_) (fun c3 => ?_)
      · refine z_bipush hx hb dX7_layer_55 (by decide) ?_
        exact c_iret hx hb hr hlocks (⟨trivial, by unfold stLayer; rw [if_neg (fun hk => by first | omega | exact hk.1 (by assumption) | exact hk.2.1 (by assumption) | exact hk.2.2.1 (by assumption) | exact hk.2.2.2.1 (by assumption) | exact hk.2.2.2 (by assumption) | exact hk.2.2.2.2 (by assumption))]; exact hW⟩) hS hz (by unfold spLayer; repeat (first | rw [if_pos (by first | assumption | omega)] | rw [if_neg (by first | assumption | omega | (intro hk; exact hk (by assumption)))])) dX7_layer_57
      · refine lv_iload hx hb dX7_layer_47 (lv_at hl 6 rfl) ?_
        refine s_call (n := 1) (As := [.int (iI (v))]) (rest := []) hx hb hml hts hown (c7_isCode l v (by omega)) gX7_layer_X7_isCode rfl rfl rfl (by decide +kernel) ⟨by decide, by decide⟩ rfl hl.1 rfl (Nat.le_of_ble_eq_true rfl) ⟨Nat.zero_le _, Nat.zero_le _⟩ dX7_layer_49 ?_
        refine z_if_neB (tgt := 58) hx hb dX7_layer_52 (by decide) (fun c4 => ?_) (fun c4 => ?_)
        · refine lv_aload hx hb dX7_layer_58 (lv_at hl 0 rfl) ?_
          refine y_get (C := RX2) (T := TX2) (N := 3) (ref := "CoreShed$Log") (ci := 2) hx hb hts hinX2 hown hK (cw15 hW (i := 2 * a.toNat + b.toNat) (by omega)) rfl 2 (by decide) (hts _ (by decide +kernel)) rfl (v := .int (iI (τ 8 (2 * a.toNat + b.toNat)))) rfl dX7_layer_60 ?_
          have r5 : (0 : Int) ≤ τ 8 (2 * a.toNat + b.toNat) ∧ τ 8 (2 * a.toNat + b.toNat) ≤ 20 := hI.1 8 (2 * a.toNat + b.toNat)
          refine z_bipush hx hb dX7_layer_63 (by decide) ?_
          refine z_icmp_lt (tgt := 71) hx hb (by omega) (by omega) dX7_layer_65 (by decide) (fun c6 => ?_) (fun c6 => ?_)
          · refine lv_aload hx hb dX7_layer_71 (lv_at hl 0 rfl) ?_
            refine lv_iload_n hx hb dX7_layer_73 rfl (lv_at hl 5 rfl) ?_
            refine lv_iload hx hb dX7_layer_74 (lv_at hl 6 rfl) ?_
            refine c_callW (n := 2) (As := [.int (iI (u)), .int (iI (v))]) (rest := []) hx hb hml hts hown hK hNW hW (va_recv hK (cw15 hW (i := 2 * a.toNat + b.toNat) (by omega)) (ci := 2) (q0 := 0) rfl rfl) hS hz (fun q h => h) (c2_add l D cT ad τ ρ hI.1 (2 * a.toNat + b.toNat) (by omega) u (by omega) v (by omega) (by omega) (by omega) (by omega)) gX7_layer_X2_add rfl rfl rfl (by decide +kernel) ⟨by decide, by decide⟩ rfl hl.1 rfl (Nat.le_of_ble_eq_true rfl) ⟨Nat.zero_le _, Nat.zero_le _⟩ dX7_layer_76 (fun ρ2 hq H locs hW hS hz => ?_)
            have hW : CW D cT ad (tu (tu (tu τ 9 (20 * (2 * a.toNat + b.toNat) + (τ 8 (2 * a.toNat + b.toNat)).toNat) u) 10 (20 * (2 * a.toNat + b.toNat) + (τ 8 (2 * a.toNat + b.toNat)).toNat) v) 8 (2 * a.toNat + b.toNat) (τ 8 (2 * a.toNat + b.toNat) + 1)) ρ2 H := hW
            have hR := Rng.tu (c := 9) (i := 20 * (2 * a.toNat + b.toNat) + (τ 8 (2 * a.toNat + b.toNat)).toNat) (v := u) hR (show (0 : Int) ≤ u from by omega) (show u ≤ 20000 from by omega)
            have hR := Rng.tu (c := 10) (i := 20 * (2 * a.toNat + b.toNat) + (τ 8 (2 * a.toNat + b.toNat)).toNat) (v := v) hR (show (0 : Int) ≤ v from by omega) (show v ≤ 9 from by omega)
            have hR := Rng.tu (c := 8) (i := (2 * a.toNat + b.toNat)) (v := τ 8 (2 * a.toNat + b.toNat) + 1) hR (show (0 : Int) ≤ τ 8 (2 * a.toNat + b.toNat) + 1 from by omega) (show τ 8 (2 * a.toNat + b.toNat) + 1 ≤ 20 from by omega)
            refine lv_aload hx hb dX7_layer_79 (lv_at hl 0 rfl) ?_
            refine y_get (C := RX2) (T := TX2) (N := 3) (ref := "CoreShed$Log") (ci := 2) hx hb hts hinX2 hown hK (cw15 hW (i := 2 * a.toNat + b.toNat) (by rw [tu_n (by decide), tu_n (by decide), tu_n (by decide)]; omega)) rfl 2 (by decide) (hts _ (by decide +kernel)) rfl (v := .int (iI ((tu (tu (tu τ 9 (20 * (2 * a.toNat + b.toNat) + (τ 8 (2 * a.toNat + b.toNat)).toNat) u) 10 (20 * (2 * a.toNat + b.toNat) + (τ 8 (2 * a.toNat + b.toNat)).toNat) v) 8 (2 * a.toNat + b.toNat) (τ 8 (2 * a.toNat + b.toNat) + 1)) 8 (2 * a.toNat + b.toNat)))) rfl dX7_layer_81 ?_
            refine z_top (show (tu (tu (tu τ 9 (20 * (2 * a.toNat + b.toNat) + (τ 8 (2 * a.toNat + b.toNat)).toNat) u) 10 (20 * (2 * a.toNat + b.toNat) + (τ 8 (2 * a.toNat + b.toNat)).toNat) v) 8 (2 * a.toNat + b.toNat) (τ 8 (2 * a.toNat + b.toNat) + 1)) 8 (2 * a.toNat + b.toNat) = τ 8 (2 * a.toNat + b.toNat) + 1 from by rw [tu_s]) ?_
            exact c_iret hx hb hr hlocks (⟨trivial, by unfold stLayer; rw [if_pos (by refine ⟨?_, ?_, ?_⟩ <;> first | omega | assumption)]; exact hW⟩) hS hz (by unfold spLayer; repeat (first | rw [if_pos (by first | assumption | omega)] | rw [if_neg (by first | assumption | omega | (intro hk; exact hk (by assumption)))])) dX7_layer_84
          · refine z_bipush hx hb dX7_layer_68 (by decide) ?_
            exact c_iret hx hb hr hlocks (⟨trivial, by unfold stLayer; rw [if_neg (fun hk => by first | omega | exact hk.1 (by assumption) | exact hk.2.1 (by assumption) | exact hk.2.2.1 (by assumption) | exact hk.2.2.2.1 (by assumption) | exact hk.2.2.2 (by assumption) | exact hk.2.2.2.2 (by assumption))]; exact hW⟩) hS hz (by unfold spLayer; repeat (first | rw [if_pos (by first | assumption | omega)] | rw [if_neg (by first | assumption | omega | (intro hk; exact hk (by assumption)))])) dX7_layer_70
        · refine z_bipush hx hb dX7_layer_55 (by decide) ?_
          exact c_iret hx hb hr hlocks (⟨trivial, by unfold stLayer; rw [if_neg (fun hk => by first | omega | exact hk.1 (by assumption) | exact hk.2.1 (by assumption) | exact hk.2.2.1 (by assumption) | exact hk.2.2.2.1 (by assumption) | exact hk.2.2.2 (by assumption) | exact hk.2.2.2.2 (by assumption))]; exact hW⟩) hS hz (by unfold spLayer; repeat (first | rw [if_pos (by first | assumption | omega)] | rw [if_neg (by first | assumption | omega | (intro hk; exact hk (by assumption)))])) dX7_layer_57
    · refine lv_aload_n hx hb dX7_layer_0 rfl (lv_at hl 0 rfl) ?_
      refine lv_iload_n hx hb dX7_layer_1 rfl (lv_at hl 1 rfl) ?_
      refine c_callR (n := 1) (As := [.int (iI (a))]) (rest := []) hx hb hml hts hown hK hNW hW (va_recv hK (cw0 hW) (ci := 7) (q0 := 0) rfl rfl) (c7_holeNamed_some l D cT ad τ ρ hI.1 a.toNat a (by omega) (by omega)) gX7_layer_X7_holeNamed rfl rfl rfl (by decide +kernel) ⟨by decide, by decide⟩ rfl hl.1 rfl (Nat.le_of_ble_eq_true rfl) ⟨Nat.zero_le _, Nat.zero_le _⟩ dX7_layer_2 ?_
      refine lv_astore (lv' := [(5, .ref (ad 11 a.toNat)), (0, .ref (ad 0 0)), (1, .int (iI (a))), (2, .int (iI (b))), (3, .int (iI (u))), (4, .int (iI (v)))]) hx hb dX7_layer_5 hl (by decide) rfl (fun ls hl => ?_)
      refine lv_aload_n hx hb dX7_layer_7 rfl (lv_at hl 1 rfl) ?_
      refine lv_iload_n hx hb dX7_layer_8 rfl (lv_at hl 2 rfl) ?_
      refine lv_iload_n hx hb dX7_layer_9 rfl (lv_at hl 3 rfl) ?_
      refine c_callR (n := 2) (As := [.int (iI (a)), .int (iI (b))]) (rest := []) hx hb hml hts hown hK hNW hW (va_recv hK (cw0 hW) (ci := 7) (q0 := 0) rfl rfl) (c7_logNamed_none l D cT ad τ ρ hI.1 a (by omega) b (by omega) (by omega)) gX7_layer_X7_logNamed rfl rfl rfl (by decide +kernel) ⟨by decide, by decide⟩ rfl hl.1 rfl (Nat.le_of_ble_eq_true rfl) ⟨Nat.zero_le _, Nat.zero_le _⟩ dX7_layer_10 ?_
      refine lv_astoreN (lv' := [(6, .null), (5, .ref (ad 11 a.toNat)), (0, .ref (ad 0 0)), (1, .int (iI (a))), (2, .int (iI (b))), (3, .int (iI (u))), (4, .int (iI (v)))]) hx hb dX7_layer_13 hl (by decide) rfl (fun ls hl => ?_)
      refine lv_aload hx hb dX7_layer_15 (lv_at hl 1 rfl) ?_
      refine lv_ifnull hx hb dX7_layer_17 ?_
      refine lv_aloadN hx hb dX7_layer_20 (lv_at hl 0 rfl) ?_
      refine lv_ifnonnullN hx hb dX7_layer_22 ?_
      refine z_bipush hx hb dX7_layer_25 (by decide) ?_
      exact c_iret hx hb hr hlocks (⟨trivial, by unfold stLayer; rw [if_neg (fun hk => by first | omega | exact hk.1 (by assumption) | exact hk.2.1 (by assumption) | exact hk.2.2.1 (by assumption) | exact hk.2.2.2.1 (by assumption) | exact hk.2.2.2 (by assumption) | exact hk.2.2.2.2 (by assumption))]; exact hW⟩) hS hz (by unfold spLayer; repeat (first | rw [if_pos (by first | assumption | omega)] | rw [if_neg (by first | assumption | omega | (intro hk; exact hk (by assumption)))])) dX7_layer_27
  · refine lv_aload_n hx hb dX7_layer_0 rfl (lv_at hl 0 rfl) ?_
    refine lv_iload_n hx hb dX7_layer_1 rfl (lv_at hl 1 rfl) ?_
    refine c_callR (n := 1) (As := [.int (iI (a))]) (rest := []) hx hb hml hts hown hK hNW hW (va_recv hK (cw0 hW) (ci := 7) (q0 := 0) rfl rfl) (c7_holeNamed_none l D cT ad τ ρ hI.1 a (by omega) (by omega)) gX7_layer_X7_holeNamed rfl rfl rfl (by decide +kernel) ⟨by decide, by decide⟩ rfl hl.1 rfl (Nat.le_of_ble_eq_true rfl) ⟨Nat.zero_le _, Nat.zero_le _⟩ dX7_layer_2 ?_
    refine lv_astoreN (lv' := [(5, .null), (0, .ref (ad 0 0)), (1, .int (iI (a))), (2, .int (iI (b))), (3, .int (iI (u))), (4, .int (iI (v)))]) hx hb dX7_layer_5 hl (by decide) rfl (fun ls hl => ?_)
    refine lv_aload_n hx hb dX7_layer_7 rfl (lv_at hl 1 rfl) ?_
    refine lv_iload_n hx hb dX7_layer_8 rfl (lv_at hl 2 rfl) ?_
    refine lv_iload_n hx hb dX7_layer_9 rfl (lv_at hl 3 rfl) ?_
    refine c_callR (n := 2) (As := [.int (iI (a)), .int (iI (b))]) (rest := []) hx hb hml hts hown hK hNW hW (va_recv hK (cw0 hW) (ci := 7) (q0 := 0) rfl rfl) (c7_logNamed_none l D cT ad τ ρ hI.1 a (by omega) b (by omega) (by omega)) gX7_layer_X7_logNamed rfl rfl rfl (by decide +kernel) ⟨by decide, by decide⟩ rfl hl.1 rfl (Nat.le_of_ble_eq_true rfl) ⟨Nat.zero_le _, Nat.zero_le _⟩ dX7_layer_10 ?_
    refine lv_astoreN (lv' := [(6, .null), (5, .null), (0, .ref (ad 0 0)), (1, .int (iI (a))), (2, .int (iI (b))), (3, .int (iI (u))), (4, .int (iI (v)))]) hx hb dX7_layer_13 hl (by decide) rfl (fun ls hl => ?_)
    refine lv_aloadN hx hb dX7_layer_15 (lv_at hl 1 rfl) ?_
    refine lv_ifnullN (tgt := 25) hx hb dX7_layer_17 (by decide) ?_
    refine z_bipush hx hb dX7_layer_25 (by decide) ?_
    exact c_iret hx hb hr hlocks (⟨trivial, by unfold stLayer; rw [if_neg (fun hk => by first | omega | exact hk.1 (by assumption) | exact hk.2.1 (by assumption) | exact hk.2.2.1 (by assumption) | exact hk.2.2.2.1 (by assumption) | exact hk.2.2.2 (by assumption) | exact hk.2.2.2.2 (by assumption))]; exact hW⟩) hS hz (by unfold spLayer; repeat (first | rw [if_pos (by first | assumption | omega)] | rw [if_neg (by first | assumption | omega | (intro hk; exact hk (by assumption)))])) dX7_layer_27
set_option maxHeartbeats 4000000 in
set_option maxRecDepth 100000 in
theorem c7_code (l : Launch) (D : va_G) (cT : Nat → ClassId) (ad : Adr) (τ ρ : Tau) (hI : Inv τ) (a : Int) (h_a : I32 a) (u : Int) (h_u : I32 u)  : Met l yX7_code wsX7_code { frames := 2, cells := 0, slots := 0, locals := 42 } (cPc D cT ad τ ρ [.ref (ad 0 0), .int (iI (a)), .int (iI (u))]) (cQ D cT ad (some (.int (iI (spCode τ a u)))) τ (stCode τ a u) (fun _ => True)) 0 0 (CA ad τ) := by
  refine c_start (by decide) rfl (Nat.le_of_ble_eq_true rfl) ?_
  intro p e s m below meth c hx hb hr hlocks hml hts hown hW hK hNW ls hl
  have hinX7 : ∀ w ∈ wsX70, w ∈ wsX7_code := by decide +kernel
  have hS : va_S (CA ad τ) s.heap s.heap [] := va_S.rf
  have hz : s.heap.size = s.heap.size := rfl
  have hR : Rng τ := hI.1
  have hl : lv_has ls 4 [(0, .ref (ad 0 0)), (1, .int (iI (a))), (2, .int (iI (u)))] := hl
  refine lv_iload_n hx hb dX7_code_0 rfl (lv_at hl 1 rfl) ?_
  refine s_call (n := 1) (As := [.int (iI (a))]) (rest := []) hx hb hml hts hown (c7_isCode l a (by omega)) gX7_code_X7_isCode rfl rfl rfl (by decide +kernel) ⟨by decide, by decide⟩ rfl hl.1 rfl (Nat.le_of_ble_eq_true rfl) ⟨Nat.zero_le _, Nat.zero_le _⟩ dX7_code_1 ?_
  refine z_if_neB (tgt := 10) hx hb dX7_code_4 (by decide) (fun c1 => ?_) (fun c1 => ?_)
  · refine lv_iload_n hx hb dX7_code_10 rfl (lv_at hl 2 rfl) ?_
    refine s_call (n := 1) (As := [.int (iI (u))]) (rest := []) hx hb hml hts hown (c7_isCode l u (by omega)) gX7_code_X7_isCode rfl rfl rfl (by decide +kernel) ⟨by decide, by decide⟩ rfl hl.1 rfl (Nat.le_of_ble_eq_true rfl) ⟨Nat.zero_le _, Nat.zero_le _⟩ dX7_code_11 ?_
    refine z_if_neB (tgt := 20) hx hb dX7_code_14 (by decide) (fun c2 => ?_) (fun c2 => ?_)
    · refine lv_aload_n hx hb dX7_code_20 rfl (lv_at hl 0 rfl) ?_
      refine y_get (C := RX7) (T := TX7) (N := 11) (ref := "CoreShed") (ci := 7) hx hb hts hinX7 hown hK (cw0 hW) rfl 3 (by decide) (hts _ (by decide +kernel)) rfl (v := .ref (ad 4 0)) rfl dX7_code_21 ?_
      refine lv_iload_n hx hb dX7_code_24 rfl (lv_at hl 1 rfl) ?_
      refine y_iald (j := a.toNat) hx hb hK 0 (cw4 hW) rfl (by omega) (by omega) (by decide) dX7_code_25 ?_
      have r3 : (0 : Int) ≤ τ 11 a.toNat ∧ τ 11 a.toNat ≤ 9 := hI.1 11 a.toNat
      refine lv_istore_n (lv' := [(3, .int (iI (τ 11 a.toNat))), (0, .ref (ad 0 0)), (1, .int (iI (a))), (2, .int (iI (u)))]) hx hb dX7_code_26 rfl hl (by decide) rfl (fun ls hl => ?_)
      refine lv_aload_n hx hb dX7_code_27 rfl (lv_at hl 1 rfl) ?_
      refine y_get (C := RX7) (T := TX7) (N := 11) (ref := "CoreShed") (ci := 7) hx hb hts hinX7 hown hK (cw0 hW) rfl 3 (by decide) (hts _ (by decide +kernel)) rfl (v := .ref (ad 4 0)) rfl dX7_code_28 ?_
      refine lv_iload_n hx hb dX7_code_31 rfl (lv_at hl 2 rfl) ?_
      refine lv_iload_n hx hb dX7_code_32 rfl (lv_at hl 3 rfl) ?_
      refine y_iast (j := a.toNat) (v := u) hx hb hK hS 0 (cw4 hW) ⟨4, 0, rfl, rfl⟩ rfl (by omega) (by omega) (by decide) dX7_code_33 (fun H locs hO hz1 hoq hS => ?_)
      have hz := hz1.trans hz
      have hW := hW.put11 hO hoq
      refine lv_iload_n hx hb dX7_code_34 rfl (lv_at hl 0 rfl) ?_
      exact c_iret hx hb hr hlocks (⟨trivial, by unfold stCode; rw [if_pos (by refine ⟨?_, ?_⟩ <;> first | omega | assumption)]; exact hW⟩) hS hz (by unfold spCode; repeat (first | rw [if_pos (by first | assumption | omega)] | rw [if_neg (by first | assumption | omega | (intro hk; exact hk (by assumption)))])) dX7_code_35
    · refine z_bipush hx hb dX7_code_17 (by decide) ?_
      exact c_iret hx hb hr hlocks (⟨trivial, by unfold stCode; rw [if_neg (fun hk => by first | omega | exact hk.1 (by assumption) | exact hk.2.1 (by assumption) | exact hk.2.2.1 (by assumption) | exact hk.2.2.2.1 (by assumption) | exact hk.2.2.2 (by assumption) | exact hk.2.2.2.2 (by assumption))]; exact hW⟩) hS hz (by unfold spCode; repeat (first | rw [if_pos (by first | assumption | omega)] | rw [if_neg (by first | assumption | omega | (intro hk; exact hk (by assumption)))])) dX7_code_19
  · refine z_bipush hx hb dX7_code_7 (by decide) ?_
    exact c_iret hx hb hr hlocks (⟨trivial, by unfold stCode; rw [if_neg (fun hk => by first | omega | exact hk.1 (by assumption) | exact hk.2.1 (by assumption) | exact hk.2.2.1 (by assumption) | exact hk.2.2.2.1 (by assumption) | exact hk.2.2.2 (by assumption) | exact hk.2.2.2.2 (by assumption))]; exact hW⟩) hS hz (by unfold spCode; repeat (first | rw [if_pos (by first | assumption | omega)] | rw [if_neg (by first | assumption | omega | (intro hk; exact hk (by assumption)))])) dX7_code_9
set_option maxHeartbeats 4000000 in
set_option maxRecDepth 100000 in
theorem c7_law (l : Launch) (D : va_G) (cT : Nat → ClassId) (ad : Adr) (τ ρ : Tau) (hI : Inv τ) (a : Int) (h_a : I32 a) (u : Int) (h_u : I32 u)  : Met l yX7_law wsX7_law { frames := 1, cells := 0, slots := 0, locals := 22 } (cPc D cT ad τ ρ [.ref (ad 0 0), .int (iI (a)), .int (iI (u))]) (cQ D cT ad (some (.int (iI (spLaw τ a u)))) τ (stLaw τ a u) (fun _ => True)) 0 0 (CA ad τ) := by
  refine c_start (by decide) rfl (Nat.le_of_ble_eq_true rfl) ?_
  intro p e s m below meth c hx hb hr hlocks hml hts hown hW hK hNW ls hl
  have hinX7 : ∀ w ∈ wsX70, w ∈ wsX7_law := by decide +kernel
  have hS : va_S (CA ad τ) s.heap s.heap [] := va_S.rf
  have hz : s.heap.size = s.heap.size := rfl
  have hR : Rng τ := hI.1
  have hl : lv_has ls 4 [(0, .ref (ad 0 0)), (1, .int (iI (a))), (2, .int (iI (u)))] := hl
  refine lv_iload_n hx hb dX7_law_0 rfl (lv_at hl 1 rfl) ?_
  refine z_if_eq (tgt := 12) hx hb (by omega) dX7_law_1 (by decide) (fun c1 => ?_) (fun c1 => ?_)
  · refine lv_iload_n hx hb dX7_law_12 rfl (lv_at hl 2 rfl) ?_
    refine z_iconst hx hb dX7_law_13 ?_
    refine z_sipush hx hb dX7_law_14 (by decide) ?_
    refine s_call (n := 3) (As := [.int (iI (u)), .int (iI (0)), .int (iI (1000))]) (rest := []) hx hb hml hts hown (c7_isWithin l u (by omega) 0 (by omega) 1000 (by omega)) gX7_law_X7_isWithin rfl rfl rfl (by decide +kernel) ⟨by decide, by decide⟩ rfl hl.1 rfl (Nat.le_of_ble_eq_true rfl) ⟨Nat.zero_le _, Nat.zero_le _⟩ dX7_law_17 ?_
    refine z_if_neB (tgt := 26) hx hb dX7_law_20 (by decide) (fun c2 => ?_) (fun c2 => ?_)
    · by_cases ha0 : a = 0
      · refine lv_iload_n hx hb dX7_law_26 rfl (lv_at hl 1 rfl) ?_
        refine z_if_ne (tgt := 37) hx hb (by omega) dX7_law_27 (by decide) (fun c3 => ?_) (fun c3 => ?_)
        · exfalso; omega
        · refine lv_aload_n hx hb dX7_law_30 rfl (lv_at hl 0 rfl) ?_
          refine y_get (C := RX7) (T := TX7) (N := 11) (ref := "CoreShed") (ci := 7) hx hb hts hinX7 hown hK (cw0 hW) rfl 9 (by decide) (hts _ (by decide +kernel)) rfl (v := .int (iI (τ 25 0))) rfl dX7_law_31 ?_
          have r4 : (0 : Int) ≤ τ 25 0 ∧ τ 25 0 ≤ 1000 := hI.1 25 0
          refine lv_goto (tgt := 41) hx hb dX7_law_34 (by decide) ?_
          refine lv_istore_n (lv' := [(3, .int (iI (τ 25 0))), (0, .ref (ad 0 0)), (1, .int (iI (a))), (2, .int (iI (u)))]) hx hb dX7_law_41 rfl hl (by decide) rfl (fun ls hl => ?_)
          refine lv_iload_n hx hb dX7_law_42 rfl (lv_at hl 2 rfl) ?_
          refine z_if_ne (tgt := 54) hx hb (by omega) dX7_law_43 (by decide) (fun c5 => ?_) (fun c5 => ?_)
          · exfalso; omega
          · refine lv_aload_n hx hb dX7_law_46 rfl (lv_at hl 1 rfl) ?_
            refine lv_iload_n hx hb dX7_law_47 rfl (lv_at hl 3 rfl) ?_
            refine y_put (C := RX7) (T := TX7) (N := 11) (ref := "CoreShed") (ci := 7) (v := .int (iI (u))) (ty := .int) hx hb hts hinX7 tyX7 tyX7_ok nmX7 hown hK hS (cw0 hW) ⟨0, 0, rfl, rfl⟩ rfl 9 (by decide) (hts _ (by decide +kernel)) rfl rfl (by decide +kernel) rfl rfl (Nat.le_of_ble_eq_true rfl) dX7_law_48 (fun H locs hO hz1 hoq hS => ?_)
            have hz := hz1.trans hz
            have hW := hW.put25_0 hO hoq
            have hR := Rng.tu (c := 25) (i := 0) (v := u) hR (show (0 : Int) ≤ (u) from by omega) (show (u) ≤ 1000 from by omega)
            refine lv_goto (tgt := 59) hx hb dX7_law_51 (by decide) ?_
            refine lv_iload_n hx hb dX7_law_59 rfl (lv_at hl 0 rfl) ?_
            exact c_iret hx hb hr hlocks (⟨trivial, by unfold stLaw; rw [if_pos ⟨by omega, by omega⟩, show a.toNat = 0 by omega]; exact hW⟩) hS hz (by unfold spLaw; rw [if_neg (by omega), if_neg (by omega)]; congr 1; omega) dX7_law_60
      · refine lv_iload_n hx hb dX7_law_26 rfl (lv_at hl 1 rfl) ?_
        refine z_if_ne (tgt := 37) hx hb (by omega) dX7_law_27 (by decide) (fun c6 => ?_) (fun c6 => ?_)
        · refine lv_aload_n hx hb dX7_law_37 rfl (lv_at hl 0 rfl) ?_
          refine y_get (C := RX7) (T := TX7) (N := 11) (ref := "CoreShed") (ci := 7) hx hb hts hinX7 hown hK (cw0 hW) rfl 10 (by decide) (hts _ (by decide +kernel)) rfl (v := .int (iI (τ 25 1))) rfl dX7_law_38 ?_
          have r7 : (0 : Int) ≤ τ 25 1 ∧ τ 25 1 ≤ 1000 := hI.1 25 1
          refine lv_istore_n (lv' := [(3, .int (iI (τ 25 1))), (0, .ref (ad 0 0)), (1, .int (iI (a))), (2, .int (iI (u)))]) hx hb dX7_law_41 rfl hl (by decide) rfl (fun ls hl => ?_)
          refine lv_iload_n hx hb dX7_law_42 rfl (lv_at hl 2 rfl) ?_
          refine z_if_ne (tgt := 54) hx hb (by omega) dX7_law_43 (by decide) (fun c8 => ?_) (fun c8 => ?_)
          · refine lv_aload_n hx hb dX7_law_54 rfl (lv_at hl 1 rfl) ?_
            refine lv_iload_n hx hb dX7_law_55 rfl (lv_at hl 3 rfl) ?_
            refine y_put (C := RX7) (T := TX7) (N := 11) (ref := "CoreShed") (ci := 7) (v := .int (iI (u))) (ty := .int) hx hb hts hinX7 tyX7 tyX7_ok nmX7 hown hK hS (cw0 hW) ⟨0, 0, rfl, rfl⟩ rfl 10 (by decide) (hts _ (by decide +kernel)) rfl rfl (by decide +kernel) rfl rfl (Nat.le_of_ble_eq_true rfl) dX7_law_56 (fun H locs hO hz1 hoq hS => ?_)
            have hz := hz1.trans hz
            have hW := hW.put25_1 hO hoq
            have hR := Rng.tu (c := 25) (i := 1) (v := u) hR (show (0 : Int) ≤ (u) from by omega) (show (u) ≤ 1000 from by omega)
            refine lv_iload_n hx hb dX7_law_59 rfl (lv_at hl 0 rfl) ?_
            exact c_iret hx hb hr hlocks (⟨trivial, by unfold stLaw; rw [if_pos ⟨by omega, by omega⟩, show a.toNat = 1 by omega]; exact hW⟩) hS hz (by unfold spLaw; rw [if_neg (by omega), if_neg (by omega)]; congr 1; omega) dX7_law_60
          · exfalso; omega
        · exfalso; omega
    · refine z_bipush hx hb dX7_law_23 (by decide) ?_
      exact c_iret hx hb hr hlocks (⟨trivial, by unfold stLaw; rw [if_neg (fun hk => by first | omega | exact hk.1 (by assumption) | exact hk.2.1 (by assumption) | exact hk.2.2.1 (by assumption) | exact hk.2.2.2.1 (by assumption) | exact hk.2.2.2 (by assumption) | exact hk.2.2.2.2 (by assumption))]; exact hW⟩) hS hz (by unfold spLaw; repeat (first | rw [if_pos (by first | assumption | omega)] | rw [if_neg (by first | assumption | omega | (intro hk; exact hk (by assumption)))])) dX7_law_25
  · refine lv_iload_n hx hb dX7_law_4 rfl (lv_at hl 1 rfl) ?_
    refine z_iconst hx hb dX7_law_5 ?_
    refine z_icmp_eq (tgt := 12) hx hb (by omega) (by omega) dX7_law_6 (by decide) (fun c9 => ?_) (fun c9 => ?_)
    · refine lv_iload_n hx hb dX7_law_12 rfl (lv_at hl 2 rfl) ?_
      refine z_iconst hx hb dX7_law_13 ?_
      refine z_sipush hx hb dX7_law_14 (by decide) ?_
      refine s_call (n := 3) (As := [.int (iI (u)), .int (iI (0)), .int (iI (1000))]) (rest := []) hx hb hml hts hown (c7_isWithin l u (by omega) 0 (by omega) 1000 (by omega)) gX7_law_X7_isWithin rfl rfl rfl (by decide +kernel) ⟨by decide, by decide⟩ rfl hl.1 rfl (Nat.le_of_ble_eq_true rfl) ⟨Nat.zero_le _, Nat.zero_le _⟩ dX7_law_17 ?_
      refine z_if_neB (tgt := 26) hx hb dX7_law_20 (by decide) (fun c10 => ?_) (fun c10 => ?_)
      · by_cases ha0 : a = 0
        · refine lv_iload_n hx hb dX7_law_26 rfl (lv_at hl 1 rfl) ?_
          refine z_if_ne (tgt := 37) hx hb (by omega) dX7_law_27 (by decide) (fun c11 => ?_) (fun c11 => ?_)
          · exfalso; omega
          · refine lv_aload_n hx hb dX7_law_30 rfl (lv_at hl 0 rfl) ?_
            refine y_get (C := RX7) (T := TX7) (N := 11) (ref := "CoreShed") (ci := 7) hx hb hts hinX7 hown hK (cw0 hW) rfl 9 (by decide) (hts _ (by decide +kernel)) rfl (v := .int (iI (τ 25 0))) rfl dX7_law_31 ?_
            have r12 : (0 : Int) ≤ τ 25 0 ∧ τ 25 0 ≤ 1000 := hI.1 25 0
            refine lv_goto (tgt := 41) hx hb dX7_law_34 (by decide) ?_
            refine lv_istore_n (lv' := [(3, .int (iI (τ 25 0))), (0, .ref (ad 0 0)), (1, .int (iI (a))), (2, .int (iI (u)))]) hx hb dX7_law_41 rfl hl (by decide) rfl (fun ls hl => ?_)
            refine lv_iload_n hx hb dX7_law_42 rfl (lv_at hl 2 rfl) ?_
            refine z_if_ne (tgt := 54) hx hb (by omega) dX7_law_43 (by decide) (fun c13 => ?_) (fun c13 => ?_)
            · exfalso; omega
            · refine lv_aload_n hx hb dX7_law_46 rfl (lv_at hl 1 rfl) ?_
              refine lv_iload_n hx hb dX7_law_47 rfl (lv_at hl 3 rfl) ?_
              refine y_put (C := RX7) (T := TX7) (N := 11) (ref := "CoreShed") (ci := 7) (v := .int (iI (u))) (ty := .int) hx hb hts hinX7 tyX7 tyX7_ok nmX7 hown hK hS (cw0 hW) ⟨0, 0, rfl, rfl⟩ rfl 9 (by decide) (hts _ (by decide +kernel)) rfl rfl (by decide +kernel) rfl rfl (Nat.le_of_ble_eq_true rfl) dX7_law_48 (fun H locs hO hz1 hoq hS => ?_)
              have hz := hz1.trans hz
              have hW := hW.put25_0 hO hoq
              have hR := Rng.tu (c := 25) (i := 0) (v := u) hR (show (0 : Int) ≤ (u) from by omega) (show (u) ≤ 1000 from by omega)
              refine lv_goto (tgt := 59) hx hb dX7_law_51 (by decide) ?_
              refine lv_iload_n hx hb dX7_law_59 rfl (lv_at hl 0 rfl) ?_
              exact c_iret hx hb hr hlocks (⟨trivial, by unfold stLaw; rw [if_pos ⟨by omega, by omega⟩, show a.toNat = 0 by omega]; exact hW⟩) hS hz (by unfold spLaw; rw [if_neg (by omega), if_neg (by omega)]; congr 1; omega) dX7_law_60
        · refine lv_iload_n hx hb dX7_law_26 rfl (lv_at hl 1 rfl) ?_
          refine z_if_ne (tgt := 37) hx hb (by omega) dX7_law_27 (by decide) (fun c14 => ?_) (fun c14 => ?_)
          · refine lv_aload_n hx hb dX7_law_37 rfl (lv_at hl 0 rfl) ?_
            refine y_get (C := RX7) (T := TX7) (N := 11) (ref := "CoreShed") (ci := 7) hx hb hts hinX7 hown hK (cw0 hW) rfl 10 (by decide) (hts _ (by decide +kernel)) rfl (v := .int (iI (τ 25 1))) rfl dX7_law_38 ?_
            have r15 : (0 : Int) ≤ τ 25 1 ∧ τ 25 1 ≤ 1000 := hI.1 25 1
            refine lv_istore_n (lv' := [(3, .int (iI (τ 25 1))), (0, .ref (ad 0 0)), (1, .int (iI (a))), (2, .int (iI (u)))]) hx hb dX7_law_41 rfl hl (by decide) rfl (fun ls hl => ?_)
            refine lv_iload_n hx hb dX7_law_42 rfl (lv_at hl 2 rfl) ?_
            refine z_if_ne (tgt := 54) hx hb (by omega) dX7_law_43 (by decide) (fun c16 => ?_) (fun c16 => ?_)
            · refine lv_aload_n hx hb dX7_law_54 rfl (lv_at hl 1 rfl) ?_
              refine lv_iload_n hx hb dX7_law_55 rfl (lv_at hl 3 rfl) ?_
              refine y_put (C := RX7) (T := TX7) (N := 11) (ref := "CoreShed") (ci := 7) (v := .int (iI (u))) (ty := .int) hx hb hts hinX7 tyX7 tyX7_ok nmX7 hown hK hS (cw0 hW) ⟨0, 0, rfl, rfl⟩ rfl 10 (by decide) (hts _ (by decide +kernel)) rfl rfl (by decide +kernel) rfl rfl (Nat.le_of_ble_eq_true rfl) dX7_law_56 (fun H locs hO hz1 hoq hS => ?_)
              have hz := hz1.trans hz
              have hW := hW.put25_1 hO hoq
              have hR := Rng.tu (c := 25) (i := 1) (v := u) hR (show (0 : Int) ≤ (u) from by omega) (show (u) ≤ 1000 from by omega)
              refine lv_iload_n hx hb dX7_law_59 rfl (lv_at hl 0 rfl) ?_
              exact c_iret hx hb hr hlocks (⟨trivial, by unfold stLaw; rw [if_pos ⟨by omega, by omega⟩, show a.toNat = 1 by omega]; exact hW⟩) hS hz (by unfold spLaw; rw [if_neg (by omega), if_neg (by omega)]; congr 1; omega) dX7_law_60
            · exfalso; omega
          · exfalso; omega
      · refine z_bipush hx hb dX7_law_23 (by decide) ?_
        exact c_iret hx hb hr hlocks (⟨trivial, by unfold stLaw; rw [if_neg (fun hk => by first | omega | exact hk.1 (by assumption) | exact hk.2.1 (by assumption) | exact hk.2.2.1 (by assumption) | exact hk.2.2.2.1 (by assumption) | exact hk.2.2.2 (by assumption) | exact hk.2.2.2.2 (by assumption))]; exact hW⟩) hS hz (by unfold spLaw; repeat (first | rw [if_pos (by first | assumption | omega)] | rw [if_neg (by first | assumption | omega | (intro hk; exact hk (by assumption)))])) dX7_law_25
    · refine z_bipush hx hb dX7_law_9 (by decide) ?_
      exact c_iret hx hb hr hlocks (⟨trivial, by unfold stLaw; rw [if_neg (fun hk => by first | omega | exact hk.1 (by assumption) | exact hk.2.1 (by assumption) | exact hk.2.2.1 (by assumption) | exact hk.2.2.2.1 (by assumption) | exact hk.2.2.2 (by assumption) | exact hk.2.2.2.2 (by assumption))]; exact hW⟩) hS hz (by unfold spLaw; repeat (first | rw [if_pos (by first | assumption | omega)] | rw [if_neg (by first | assumption | omega | (intro hk; exact hk (by assumption)))])) dX7_law_11
set_option maxHeartbeats 4000000 in
set_option maxRecDepth 100000 in
theorem c7_result (l : Launch) (D : va_G) (cT : Nat → ClassId) (ad : Adr) (τ ρ : Tau) (hI : Inv τ) (a : Int) (h_a : I32 a) (b : Int) (h_b : I32 b) (u : Int) (h_u : I32 u)  : Met l yX7_result wsX7_result { frames := 2, cells := 0, slots := 0, locals := 44 } (cPc D cT ad τ ρ [.ref (ad 0 0), .int (iI (a)), .int (iI (b)), .int (iI (u))]) (cQ D cT ad (some (.int (iI (spRes τ a b u)))) τ (stRes τ a b u) (fun _ => True)) 0 0 (CA ad τ) := by
  refine c_start (by decide) rfl (Nat.le_of_ble_eq_true rfl) ?_
  intro p e s m below meth c hx hb hr hlocks hml hts hown hW hK hNW ls hl
  have hinX5 : ∀ w ∈ wsX50, w ∈ wsX7_result := by decide +kernel
  have hS : va_S (CA ad τ) s.heap s.heap [] := va_S.rf
  have hz : s.heap.size = s.heap.size := rfl
  have hR : Rng τ := hI.1
  have hl : lv_has ls 5 [(0, .ref (ad 0 0)), (1, .int (iI (a))), (2, .int (iI (b))), (3, .int (iI (u)))] := hl
  have hq18_0 : (0 : Int) ≤ τ 18 0 ∧ τ 18 0 ≤ 6 := hI.1 18 0
  have hq19_atoNat : (0 : Int) ≤ τ 19 a.toNat ∧ τ 19 a.toNat ≤ 16 := hI.1 19 a.toNat
  by_cases hh : (0 ≤ a ∧ a < τ 18 0) ∧ (0 ≤ b ∧ b < τ 19 a.toNat)
  · refine lv_aload_n hx hb dX7_result_0 rfl (lv_at hl 0 rfl) ?_
    refine lv_iload_n hx hb dX7_result_1 rfl (lv_at hl 1 rfl) ?_
    refine lv_iload_n hx hb dX7_result_2 rfl (lv_at hl 2 rfl) ?_
    refine c_callR (n := 2) (As := [.int (iI (a)), .int (iI (b))]) (rest := []) hx hb hml hts hown hK hNW hW (va_recv hK (cw0 hW) (ci := 7) (q0 := 0) rfl rfl) (c7_placeNamed_some l D cT ad τ ρ hI.1 a.toNat a (by omega) b.toNat b (by omega) (by omega) (by omega)) gX7_result_X7_placeNamed rfl rfl rfl (by decide +kernel) ⟨by decide, by decide⟩ rfl hl.1 rfl (Nat.le_of_ble_eq_true rfl) ⟨Nat.zero_le _, Nat.zero_le _⟩ dX7_result_3 ?_
    refine lv_astore (lv' := [(4, .ref (ad 21 (16 * a.toNat + b.toNat))), (0, .ref (ad 0 0)), (1, .int (iI (a))), (2, .int (iI (b))), (3, .int (iI (u)))]) hx hb dX7_result_6 hl (by decide) rfl (fun ls hl => ?_)
    refine lv_aload hx hb dX7_result_8 (lv_at hl 0 rfl) ?_
    refine lv_ifnonnull (tgt := 16) hx hb dX7_result_10 (by decide) ?_
    refine lv_iload_n hx hb dX7_result_16 rfl (lv_at hl 4 rfl) ?_
    refine z_sipush hx hb dX7_result_17 (by decide) ?_
    refine z_ldc (n := 100000) hx hb hown (hts (.constant RX7 90 (100000)) (by decide +kernel)) (by decide) dX7_result_20 ?_
    refine s_call (n := 3) (As := [.int (iI (u)), .int (iI ((-1000))), .int (iI (100000))]) (rest := []) hx hb hml hts hown (c7_isWithin l u (by omega) (-1000) (by omega) 100000 (by omega)) gX7_result_X7_isWithin rfl rfl rfl (by decide +kernel) ⟨by decide, by decide⟩ rfl hl.1 rfl (Nat.le_of_ble_eq_true rfl) ⟨Nat.zero_le _, Nat.zero_le _⟩ dX7_result_22 ?_
    refine z_if_neB (tgt := 31) hx hb dX7_result_25 (by decide) (fun c1 => ?_) (fun c1 => ?_)
    · refine lv_aload hx hb dX7_result_31 (lv_at hl 0 rfl) ?_
      refine z_iconst hx hb dX7_result_33 ?_
      refine y_put (C := RX5) (T := TX5) (N := 5) (ref := "CoreShed$Place") (ci := 5) (v := .int (iI (1))) (ty := .boolean) hx hb hts hinX5 tyX5 tyX5_ok nmX5 hown hK hS (cw21 hW (b := a.toNat) (q := b.toNat) (by omega) (by omega) (by omega)) ⟨21, 16 * a.toNat + b.toNat, ⟨by rw [show (16 * a.toNat + b.toNat) / 16 = a.toNat by omega]; omega, by rw [show (16 * a.toNat + b.toNat) / 16 = a.toNat by omega, show (16 * a.toNat + b.toNat) % 16 = b.toNat by omega]; omega⟩, rfl⟩ rfl 3 (by decide) (hts _ (by decide +kernel)) rfl rfl (by decide +kernel) (bI_nar (Or.inr rfl)) (by decide) (Nat.le_of_ble_eq_true rfl) dX7_result_34 (fun H locs hO hz1 hoq hS => ?_)
      have hz := hz1.trans hz
      have hW := hW.put23 (i := 16 * a.toNat + b.toNat) (show cLive _ 21 (16 * a.toNat + b.toNat) from ⟨by rw [show (16 * a.toNat + b.toNat) / 16 = a.toNat by omega]; omega, by rw [show (16 * a.toNat + b.toNat) / 16 = a.toNat by omega, show (16 * a.toNat + b.toNat) % 16 = b.toNat by omega]; omega⟩) hO hoq
      have hR := Rng.tu (c := 23) (i := 16 * a.toNat + b.toNat) (v := 1) hR (show (0 : Int) ≤ (1) from by omega) (show (1) ≤ 1 from by omega)
      refine lv_aload hx hb dX7_result_37 (lv_at hl 0 rfl) ?_
      refine lv_iload_n hx hb dX7_result_39 rfl (lv_at hl 4 rfl) ?_
      refine y_put (C := RX5) (T := TX5) (N := 5) (ref := "CoreShed$Place") (ci := 5) (v := .int (iI (u))) (ty := .int) hx hb hts hinX5 tyX5 tyX5_ok nmX5 hown hK hS (cw21 hW (b := a.toNat) (q := b.toNat) (by rw [tu_n (by decide)]; omega) (by rw [tu_n (by decide)]; omega) (by omega)) ⟨21, 16 * a.toNat + b.toNat, ⟨by rw [show (16 * a.toNat + b.toNat) / 16 = a.toNat by omega]; omega, by rw [show (16 * a.toNat + b.toNat) / 16 = a.toNat by omega, show (16 * a.toNat + b.toNat) % 16 = b.toNat by omega]; omega⟩, rfl⟩ rfl 4 (by decide) (hts _ (by decide +kernel)) rfl rfl (by decide +kernel) rfl rfl (Nat.le_of_ble_eq_true rfl) dX7_result_40 (fun H locs hO hz1 hoq hS => ?_)
      have hz := hz1.trans hz
      have hW := hW.put24 (i := 16 * a.toNat + b.toNat) (show cLive _ 21 (16 * a.toNat + b.toNat) from ((live_tu (by decide) (by decide) (by decide) (by decide)).mpr (show cLive τ 21 _ from ⟨by rw [show (16 * a.toNat + b.toNat) / 16 = a.toNat by omega]; omega, by rw [show (16 * a.toNat + b.toNat) / 16 = a.toNat by omega, show (16 * a.toNat + b.toNat) % 16 = b.toNat by omega]; omega⟩))) hO hoq
      have hR := Rng.tu (c := 24) (i := 16 * a.toNat + b.toNat) (v := u) hR (show (-1000 : Int) ≤ (u) from by omega) (show (u) ≤ 100000 from by omega)
      refine z_iconst hx hb dX7_result_43 ?_
      exact c_iret hx hb hr hlocks (⟨trivial, by unfold stRes; rw [if_pos ⟨by omega, by omega⟩, tu_swap (by decide)]; exact hW⟩) hS hz (by unfold spRes; repeat (first | rw [if_pos (by first | assumption | omega)] | rw [if_neg (by first | assumption | omega | (intro hk; exact hk (by assumption)))])) dX7_result_44
    · refine z_bipush hx hb dX7_result_28 (by decide) ?_
      exact c_iret hx hb hr hlocks (⟨trivial, by unfold stRes; rw [if_neg (fun hk => by first | omega | exact hk.1 (by assumption) | exact hk.2.1 (by assumption) | exact hk.2.2.1 (by assumption) | exact hk.2.2.2.1 (by assumption) | exact hk.2.2.2 (by assumption) | exact hk.2.2.2.2 (by assumption))]; exact hW⟩) hS hz (by unfold spRes; repeat (first | rw [if_pos (by first | assumption | omega)] | rw [if_neg (by first | assumption | omega | (intro hk; exact hk (by assumption)))])) dX7_result_30
  · refine lv_aload_n hx hb dX7_result_0 rfl (lv_at hl 0 rfl) ?_
    refine lv_iload_n hx hb dX7_result_1 rfl (lv_at hl 1 rfl) ?_
    refine lv_iload_n hx hb dX7_result_2 rfl (lv_at hl 2 rfl) ?_
    refine c_callR (n := 2) (As := [.int (iI (a)), .int (iI (b))]) (rest := []) hx hb hml hts hown hK hNW hW (va_recv hK (cw0 hW) (ci := 7) (q0 := 0) rfl rfl) (c7_placeNamed_none l D cT ad τ ρ hI.1 a (by omega) b (by omega) (by omega)) gX7_result_X7_placeNamed rfl rfl rfl (by decide +kernel) ⟨by decide, by decide⟩ rfl hl.1 rfl (Nat.le_of_ble_eq_true rfl) ⟨Nat.zero_le _, Nat.zero_le _⟩ dX7_result_3 ?_
    refine lv_astoreN (lv' := [(4, .null), (0, .ref (ad 0 0)), (1, .int (iI (a))), (2, .int (iI (b))), (3, .int (iI (u)))]) hx hb dX7_result_6 hl (by decide) rfl (fun ls hl => ?_)
    refine lv_aloadN hx hb dX7_result_8 (lv_at hl 0 rfl) ?_
    refine lv_ifnonnullN hx hb dX7_result_10 ?_
    refine z_bipush hx hb dX7_result_13 (by decide) ?_
    exact c_iret hx hb hr hlocks (⟨trivial, by unfold stRes; rw [if_neg (fun hk => by first | omega | exact hk.1 (by assumption) | exact hk.2.1 (by assumption) | exact hk.2.2.1 (by assumption) | exact hk.2.2.2.1 (by assumption) | exact hk.2.2.2 (by assumption) | exact hk.2.2.2.2 (by assumption))]; exact hW⟩) hS hz (by unfold spRes; repeat (first | rw [if_pos (by first | assumption | omega)] | rw [if_neg (by first | assumption | omega | (intro hk; exact hk (by assumption)))])) dX7_result_15
set_option maxHeartbeats 4000000 in
set_option maxRecDepth 100000 in
theorem c5_exchangeResult (l : Launch) (D : va_G) (cT : Nat → ClassId) (ad : Adr) (τ ρ : Tau) (hI : Rng τ) (b : Nat) (hlb : (b : Int) < τ 18 0) (q : Nat) (hlq : (q : Int) < τ 19 b) (hq1 : ((q + 1 : Nat) : Int) < τ 19 b) (hq2 : q + 1 < 16) : Met l yX5_exchangeResult wsX5_exchangeResult { frames := 0, cells := 0, slots := 0, locals := 0 } (cPc D cT ad τ ρ [.ref (ad 21 (16 * b + q)), .ref (ad 21 (16 * b + (q + 1)))]) (cQ D cT ad (none) τ (tnT τ b q) (fun _ => True)) 0 0 (CA ad τ) := by
  refine c_start (by decide) rfl (Nat.le_of_ble_eq_true rfl) ?_
  intro p e s m below meth c hx hb hr hlocks hml hts hown hW hK hNW ls hl
  have hinX5 : ∀ w ∈ wsX50, w ∈ wsX5_exchangeResult := by decide +kernel
  have hS : va_S (CA ad τ) s.heap s.heap [] := va_S.rf
  have hz : s.heap.size = s.heap.size := rfl
  have hR : Rng τ := hI
  have hl : lv_has ls 3 [(0, .ref (ad 21 (16 * b + q))), (1, .ref (ad 21 (16 * b + (q + 1))))] := hl
  have hr1 : (-1000 : Int) ≤ τ 24 (16 * b + q) ∧ τ 24 (16 * b + q) ≤ 100000 := hI 24 _
  have hr2 : (-1000 : Int) ≤ τ 24 (16 * b + (q + 1)) ∧ τ 24 (16 * b + (q + 1)) ≤ 100000 := hI 24 _
  refine lv_aload_n hx hb dX5_exchangeResult_0 rfl (lv_at hl 0 rfl) ?_
  refine y_get (C := RX5) (T := TX5) (N := 5) (ref := "CoreShed$Place") (ci := 5) hx hb hts hinX5 hown hK (cw21 hW (b := b) (q := q) (by omega) (by omega) (by omega)) rfl 4 (by decide) (hts _ (by decide +kernel)) rfl (v := .int (iI (τ 24 (16 * b + q)))) rfl dX5_exchangeResult_1 ?_
  have r1 : (-1000 : Int) ≤ τ 24 (16 * b + q) ∧ τ 24 (16 * b + q) ≤ 100000 := hI 24 (16 * b + q)
  refine lv_istore_n (lv' := [(2, .int (iI (τ 24 (16 * b + q)))), (0, .ref (ad 21 (16 * b + q))), (1, .ref (ad 21 (16 * b + (q + 1))))]) hx hb dX5_exchangeResult_4 rfl hl (by decide) rfl (fun ls hl => ?_)
  refine lv_aload_n hx hb dX5_exchangeResult_5 rfl (lv_at hl 1 rfl) ?_
  refine lv_aload_n hx hb dX5_exchangeResult_6 rfl (lv_at hl 2 rfl) ?_
  refine y_get (C := RX5) (T := TX5) (N := 5) (ref := "CoreShed$Place") (ci := 5) hx hb hts hinX5 hown hK (cw21 hW (b := b) (q := q + 1) (by omega) (by omega) (by omega)) rfl 4 (by decide) (hts _ (by decide +kernel)) rfl (v := .int (iI (τ 24 (16 * b + (q + 1))))) rfl dX5_exchangeResult_7 ?_
  have r2 : (-1000 : Int) ≤ τ 24 (16 * b + (q + 1)) ∧ τ 24 (16 * b + (q + 1)) ≤ 100000 := hI 24 (16 * b + (q + 1))
  refine y_put (C := RX5) (T := TX5) (N := 5) (ref := "CoreShed$Place") (ci := 5) (v := .int (iI (τ 24 (16 * b + (q + 1))))) (ty := .int) hx hb hts hinX5 tyX5 tyX5_ok nmX5 hown hK hS (cw21 hW (b := b) (q := q) (by omega) (by omega) (by omega)) ⟨21, 16 * b + q, ⟨by rw [show (16 * b + q) / 16 = b by omega]; omega, by rw [show (16 * b + q) / 16 = b by omega, show (16 * b + q) % 16 = q by omega]; omega⟩, rfl⟩ rfl 4 (by decide) (hts _ (by decide +kernel)) rfl rfl (by decide +kernel) rfl rfl (Nat.le_of_ble_eq_true rfl) dX5_exchangeResult_10 (fun H locs hO hz1 hoq hS => ?_)
  have hz := hz1.trans hz
  have hW := hW.put24 (i := 16 * b + q) (show cLive _ 21 (16 * b + q) from ⟨by rw [show (16 * b + q) / 16 = b by omega]; omega, by rw [show (16 * b + q) / 16 = b by omega, show (16 * b + q) % 16 = q by omega]; omega⟩) hO hoq
  have hR := Rng.tu (c := 24) (i := 16 * b + q) (v := τ 24 (16 * b + (q + 1))) hR (show (-1000 : Int) ≤ (τ 24 (16 * b + (q + 1))) from by omega) (show (τ 24 (16 * b + (q + 1))) ≤ 100000 from by omega)
  refine lv_aload_n hx hb dX5_exchangeResult_13 rfl (lv_at hl 2 rfl) ?_
  refine lv_iload_n hx hb dX5_exchangeResult_14 rfl (lv_at hl 0 rfl) ?_
  refine y_put (C := RX5) (T := TX5) (N := 5) (ref := "CoreShed$Place") (ci := 5) (v := .int (iI (τ 24 (16 * b + q)))) (ty := .int) hx hb hts hinX5 tyX5 tyX5_ok nmX5 hown hK hS (cw21 hW (b := b) (q := q + 1) (by rw [tu_n (by decide)]; omega) (by rw [tu_n (by decide)]; omega) (by omega)) ⟨21, 16 * b + (q + 1), ⟨by rw [show (16 * b + (q + 1)) / 16 = b by omega]; omega, by rw [show (16 * b + (q + 1)) / 16 = b by omega, show (16 * b + (q + 1)) % 16 = q + 1 by omega]; omega⟩, rfl⟩ rfl 4 (by decide) (hts _ (by decide +kernel)) rfl rfl (by decide +kernel) rfl rfl (Nat.le_of_ble_eq_true rfl) dX5_exchangeResult_15 (fun H locs hO hz1 hoq hS => ?_)
  have hz := hz1.trans hz
  have hW := hW.put24 (i := 16 * b + (q + 1)) (show cLive _ 21 (16 * b + (q + 1)) from ((live_tu (by decide) (by decide) (by decide) (by decide)).mpr (show cLive τ 21 _ from ⟨by rw [show (16 * b + (q + 1)) / 16 = b by omega]; omega, by rw [show (16 * b + (q + 1)) / 16 = b by omega, show (16 * b + (q + 1)) % 16 = q + 1 by omega]; omega⟩))) hO hoq
  have hR := Rng.tu (c := 24) (i := 16 * b + (q + 1)) (v := τ 24 (16 * b + q)) hR (show (-1000 : Int) ≤ (τ 24 (16 * b + q)) from by omega) (show (τ 24 (16 * b + q)) ≤ 100000 from by omega)
  exact c_vret hx hb hr hlocks (⟨trivial, hW⟩) hS hz dX5_exchangeResult_18
set_option maxHeartbeats 4000000 in
set_option maxRecDepth 100000 in
theorem c7_exchange (l : Launch) (D : va_G) (cT : Nat → ClassId) (ad : Adr) (τ ρ : Tau) (hI : Inv τ) (a : Int) (h_a : I32 a) (u : Int) (h_u : I32 u)  : Met l yX7_exchange wsX7_exchange { frames := 2, cells := 0, slots := 0, locals := 44 } (cPc D cT ad τ ρ [.ref (ad 0 0), .int (iI (a)), .int (iI (u))]) (cQ D cT ad (some (.int (iI (spExch τ a u)))) τ (stExch τ a u) (fun _ => True)) 0 0 (CA ad τ) := by
  refine c_start (by decide) rfl (Nat.le_of_ble_eq_true rfl) ?_
  intro p e s m below meth c hx hb hr hlocks hml hts hown hW hK hNW ls hl
  have hinX5 : ∀ w ∈ wsX50, w ∈ wsX7_exchange := by decide +kernel
  have hS : va_S (CA ad τ) s.heap s.heap [] := va_S.rf
  have hz : s.heap.size = s.heap.size := rfl
  have hR : Rng τ := hI.1
  have hl : lv_has ls 5 [(0, .ref (ad 0 0)), (1, .int (iI (a))), (2, .int (iI (u)))] := hl
  have hq18_0 : (0 : Int) ≤ τ 18 0 ∧ τ 18 0 ≤ 6 := hI.1 18 0
  have hq19_atoNat : (0 : Int) ≤ τ 19 a.toNat ∧ τ 19 a.toNat ≤ 16 := hI.1 19 a.toNat
  by_cases hh : (0 ≤ a ∧ a < τ 18 0) ∧ (0 ≤ u ∧ u < τ 19 a.toNat)
  · by_cases hh2 : u + 1 < τ 19 a.toNat
    · refine lv_aload_n hx hb dX7_exchange_0 rfl (lv_at hl 0 rfl) ?_
      refine lv_iload_n hx hb dX7_exchange_1 rfl (lv_at hl 1 rfl) ?_
      refine lv_iload_n hx hb dX7_exchange_2 rfl (lv_at hl 2 rfl) ?_
      refine c_callR (n := 2) (As := [.int (iI (a)), .int (iI (u))]) (rest := []) hx hb hml hts hown hK hNW hW (va_recv hK (cw0 hW) (ci := 7) (q0 := 0) rfl rfl) (c7_placeNamed_some l D cT ad τ ρ hI.1 a.toNat a (by omega) u.toNat u (by omega) (by omega) (by omega)) gX7_exchange_X7_placeNamed rfl rfl rfl (by decide +kernel) ⟨by decide, by decide⟩ rfl hl.1 rfl (Nat.le_of_ble_eq_true rfl) ⟨Nat.zero_le _, Nat.zero_le _⟩ dX7_exchange_3 ?_
      refine lv_astore_n (lv' := [(3, .ref (ad 21 (16 * a.toNat + u.toNat))), (0, .ref (ad 0 0)), (1, .int (iI (a))), (2, .int (iI (u)))]) hx hb dX7_exchange_6 rfl hl (by decide) rfl (fun ls hl => ?_)
      refine lv_aload_n hx hb dX7_exchange_7 rfl (lv_at hl 0 rfl) ?_
      refine lv_ifnonnull (tgt := 15) hx hb dX7_exchange_8 (by decide) ?_
      refine lv_aload_n hx hb dX7_exchange_15 rfl (lv_at hl 1 rfl) ?_
      refine lv_iload_n hx hb dX7_exchange_16 rfl (lv_at hl 2 rfl) ?_
      refine lv_iload_n hx hb dX7_exchange_17 rfl (lv_at hl 3 rfl) ?_
      refine z_iconst hx hb dX7_exchange_18 ?_
      refine z_iadd hx hb dX7_exchange_19 ?_
      refine c_callR (n := 2) (As := [.int (iI (a)), .int (iI (u + 1))]) (rest := []) hx hb hml hts hown hK hNW hW (va_recv hK (cw0 hW) (ci := 7) (q0 := 0) rfl rfl) (c7_placeNamed_some l D cT ad τ ρ hI.1 a.toNat a (by omega) (u.toNat + 1) (u + 1) (by omega) (by omega) (by omega)) gX7_exchange_X7_placeNamed rfl rfl rfl (by decide +kernel) ⟨by decide, by decide⟩ rfl hl.1 rfl (Nat.le_of_ble_eq_true rfl) ⟨Nat.zero_le _, Nat.zero_le _⟩ dX7_exchange_20 ?_
      refine lv_astore (lv' := [(4, .ref (ad 21 (16 * a.toNat + (u.toNat + 1)))), (3, .ref (ad 21 (16 * a.toNat + u.toNat))), (0, .ref (ad 0 0)), (1, .int (iI (a))), (2, .int (iI (u)))]) hx hb dX7_exchange_23 hl (by decide) rfl (fun ls hl => ?_)
      refine lv_aload_n hx hb dX7_exchange_25 rfl (lv_at hl 1 rfl) ?_
      refine lv_ifnull hx hb dX7_exchange_26 ?_
      refine lv_aload hx hb dX7_exchange_29 (lv_at hl 0 rfl) ?_
      refine lv_ifnonnull (tgt := 37) hx hb dX7_exchange_31 (by decide) ?_
      refine lv_aload_n hx hb dX7_exchange_37 rfl (lv_at hl 1 rfl) ?_
      refine y_get (C := RX5) (T := TX5) (N := 5) (ref := "CoreShed$Place") (ci := 5) hx hb hts hinX5 hown hK (cw21 hW (b := a.toNat) (q := u.toNat) (by omega) (by omega) (by omega)) rfl 3 (by decide) (hts _ (by decide +kernel)) rfl (v := .int (iI (τ 23 (16 * a.toNat + u.toNat)))) rfl dX7_exchange_38 ?_
      have r1 : (0 : Int) ≤ τ 23 (16 * a.toNat + u.toNat) ∧ τ 23 (16 * a.toNat + u.toNat) ≤ 1 := hI.1 23 (16 * a.toNat + u.toNat)
      refine z_if_eq (tgt := 52) hx hb (by omega) dX7_exchange_41 (by decide) (fun c2 => ?_) (fun c2 => ?_)
      · refine z_bipush hx hb dX7_exchange_52 (by decide) ?_
        exact c_iret hx hb hr hlocks (⟨trivial, by unfold stExch; rw [if_neg (fun hk => hk.2.1 c2)]; exact hW⟩) hS hz (by unfold spExch; rw [if_neg (by omega), if_pos (fun hk => hk.1 c2)]) dX7_exchange_54
      · refine lv_aload hx hb dX7_exchange_44 (lv_at hl 0 rfl) ?_
        refine y_get (C := RX5) (T := TX5) (N := 5) (ref := "CoreShed$Place") (ci := 5) hx hb hts hinX5 hown hK (cw21 hW (b := a.toNat) (q := (u.toNat + 1)) (by omega) (by omega) (by omega)) rfl 3 (by decide) (hts _ (by decide +kernel)) rfl (v := .int (iI (τ 23 (16 * a.toNat + (u.toNat + 1))))) rfl dX7_exchange_46 ?_
        have r3 : (0 : Int) ≤ τ 23 (16 * a.toNat + (u.toNat + 1)) ∧ τ 23 (16 * a.toNat + (u.toNat + 1)) ≤ 1 := hI.1 23 (16 * a.toNat + (u.toNat + 1))
        refine z_if_ne (tgt := 55) hx hb (by omega) dX7_exchange_49 (by decide) (fun c4 => ?_) (fun c4 => ?_)
        · have c4 : ¬ τ 23 (16 * a.toNat + u.toNat + 1) = 0 := c4
          refine lv_aload_n hx hb dX7_exchange_55 rfl (lv_at hl 1 rfl) ?_
          refine lv_aload hx hb dX7_exchange_56 (lv_at hl 0 rfl) ?_
          refine c_callW (n := 1) (As := [.ref (ad 21 (16 * a.toNat + (u.toNat + 1)))]) (rest := []) hx hb hml hts hown hK hNW hW (va_recv hK (cw21 hW (b := a.toNat) (q := u.toNat) (by omega) (by omega) (by omega)) (ci := 5) (q0 := 0) rfl rfl) hS hz (fun q h => h) (c5_exchangeResult l D cT ad τ ρ hI.1 a.toNat (by omega) u.toNat (by omega) (by omega) (by omega)) gX7_exchange_X5_exchangeResult rfl rfl rfl (by decide +kernel) ⟨by decide, by decide⟩ rfl hl.1 rfl (Nat.le_of_ble_eq_true rfl) ⟨Nat.zero_le _, Nat.zero_le _⟩ dX7_exchange_58 (fun ρ2 hq H locs hW hS hz => ?_)
          have hW : CW D cT ad (tnT τ a.toNat u.toNat) ρ2 H := hW
          refine z_iconst hx hb dX7_exchange_61 ?_
          exact c_iret hx hb hr hlocks (⟨trivial, by unfold stExch; rw [if_pos ⟨by omega, ⟨c2, c4⟩⟩]; exact hW⟩) hS hz (by unfold spExch; rw [if_neg (by omega), if_neg (fun hk => hk ⟨c2, c4⟩)]) dX7_exchange_62
        · have c4 : τ 23 (16 * a.toNat + u.toNat + 1) = 0 := c4
          refine z_bipush hx hb dX7_exchange_52 (by decide) ?_
          exact c_iret hx hb hr hlocks (⟨trivial, by unfold stExch; rw [if_neg (fun hk => hk.2.2 c4)]; exact hW⟩) hS hz (by unfold spExch; rw [if_neg (by omega), if_pos (fun hk => hk.2 c4)]) dX7_exchange_54
    · refine lv_aload_n hx hb dX7_exchange_0 rfl (lv_at hl 0 rfl) ?_
      refine lv_iload_n hx hb dX7_exchange_1 rfl (lv_at hl 1 rfl) ?_
      refine lv_iload_n hx hb dX7_exchange_2 rfl (lv_at hl 2 rfl) ?_
      refine c_callR (n := 2) (As := [.int (iI (a)), .int (iI (u))]) (rest := []) hx hb hml hts hown hK hNW hW (va_recv hK (cw0 hW) (ci := 7) (q0 := 0) rfl rfl) (c7_placeNamed_some l D cT ad τ ρ hI.1 a.toNat a (by omega) u.toNat u (by omega) (by omega) (by omega)) gX7_exchange_X7_placeNamed rfl rfl rfl (by decide +kernel) ⟨by decide, by decide⟩ rfl hl.1 rfl (Nat.le_of_ble_eq_true rfl) ⟨Nat.zero_le _, Nat.zero_le _⟩ dX7_exchange_3 ?_
      refine lv_astore_n (lv' := [(3, .ref (ad 21 (16 * a.toNat + u.toNat))), (0, .ref (ad 0 0)), (1, .int (iI (a))), (2, .int (iI (u)))]) hx hb dX7_exchange_6 rfl hl (by decide) rfl (fun ls hl => ?_)
      refine lv_aload_n hx hb dX7_exchange_7 rfl (lv_at hl 0 rfl) ?_
      refine lv_ifnonnull (tgt := 15) hx hb dX7_exchange_8 (by decide) ?_
      refine lv_aload_n hx hb dX7_exchange_15 rfl (lv_at hl 1 rfl) ?_
      refine lv_iload_n hx hb dX7_exchange_16 rfl (lv_at hl 2 rfl) ?_
      refine lv_iload_n hx hb dX7_exchange_17 rfl (lv_at hl 3 rfl) ?_
      refine z_iconst hx hb dX7_exchange_18 ?_
      refine z_iadd hx hb dX7_exchange_19 ?_
      refine c_callR (n := 2) (As := [.int (iI (a)), .int (iI (u + 1))]) (rest := []) hx hb hml hts hown hK hNW hW (va_recv hK (cw0 hW) (ci := 7) (q0 := 0) rfl rfl) (c7_placeNamed_none l D cT ad τ ρ hI.1 a (by omega) (u + 1) (by omega) (by omega)) gX7_exchange_X7_placeNamed rfl rfl rfl (by decide +kernel) ⟨by decide, by decide⟩ rfl hl.1 rfl (Nat.le_of_ble_eq_true rfl) ⟨Nat.zero_le _, Nat.zero_le _⟩ dX7_exchange_20 ?_
      refine lv_astoreN (lv' := [(4, .null), (3, .ref (ad 21 (16 * a.toNat + u.toNat))), (0, .ref (ad 0 0)), (1, .int (iI (a))), (2, .int (iI (u)))]) hx hb dX7_exchange_23 hl (by decide) rfl (fun ls hl => ?_)
      refine lv_aload_n hx hb dX7_exchange_25 rfl (lv_at hl 1 rfl) ?_
      refine lv_ifnull hx hb dX7_exchange_26 ?_
      refine lv_aloadN hx hb dX7_exchange_29 (lv_at hl 0 rfl) ?_
      refine lv_ifnonnullN hx hb dX7_exchange_31 ?_
      refine z_bipush hx hb dX7_exchange_34 (by decide) ?_
      exact c_iret hx hb hr hlocks (⟨trivial, by unfold stExch; rw [if_neg (fun hk => by first | omega | exact hk.1 (by assumption) | exact hk.2.1 (by assumption) | exact hk.2.2.1 (by assumption) | exact hk.2.2.2.1 (by assumption) | exact hk.2.2.2 (by assumption) | exact hk.2.2.2.2 (by assumption))]; exact hW⟩) hS hz (by unfold spExch; repeat (first | rw [if_pos (by first | assumption | omega)] | rw [if_neg (by first | assumption | omega | (intro hk; exact hk (by assumption)))])) dX7_exchange_36
  · refine lv_aload_n hx hb dX7_exchange_0 rfl (lv_at hl 0 rfl) ?_
    refine lv_iload_n hx hb dX7_exchange_1 rfl (lv_at hl 1 rfl) ?_
    refine lv_iload_n hx hb dX7_exchange_2 rfl (lv_at hl 2 rfl) ?_
    refine c_callR (n := 2) (As := [.int (iI (a)), .int (iI (u))]) (rest := []) hx hb hml hts hown hK hNW hW (va_recv hK (cw0 hW) (ci := 7) (q0 := 0) rfl rfl) (c7_placeNamed_none l D cT ad τ ρ hI.1 a (by omega) u (by omega) (by omega)) gX7_exchange_X7_placeNamed rfl rfl rfl (by decide +kernel) ⟨by decide, by decide⟩ rfl hl.1 rfl (Nat.le_of_ble_eq_true rfl) ⟨Nat.zero_le _, Nat.zero_le _⟩ dX7_exchange_3 ?_
    refine lv_astore_nN (lv' := [(3, .null), (0, .ref (ad 0 0)), (1, .int (iI (a))), (2, .int (iI (u)))]) hx hb dX7_exchange_6 rfl hl (by decide) rfl (fun ls hl => ?_)
    refine lv_aload_nN hx hb dX7_exchange_7 rfl (lv_at hl 0 rfl) ?_
    refine lv_ifnonnullN hx hb dX7_exchange_8 ?_
    refine lv_null hx hb dX7_exchange_11 ?_
    refine lv_goto (tgt := 23) hx hb dX7_exchange_12 (by decide) ?_
    refine lv_astoreN (lv' := [(4, .null), (3, .null), (0, .ref (ad 0 0)), (1, .int (iI (a))), (2, .int (iI (u)))]) hx hb dX7_exchange_23 hl (by decide) rfl (fun ls hl => ?_)
    refine lv_aload_nN hx hb dX7_exchange_25 rfl (lv_at hl 1 rfl) ?_
    refine lv_ifnullN (tgt := 34) hx hb dX7_exchange_26 (by decide) ?_
    refine z_bipush hx hb dX7_exchange_34 (by decide) ?_
    exact c_iret hx hb hr hlocks (⟨trivial, by unfold stExch; rw [if_neg (fun hk => by first | omega | exact hk.1 (by assumption) | exact hk.2.1 (by assumption) | exact hk.2.2.1 (by assumption) | exact hk.2.2.2.1 (by assumption) | exact hk.2.2.2 (by assumption) | exact hk.2.2.2.2 (by assumption))]; exact hW⟩) hS hz (by unfold spExch; repeat (first | rw [if_pos (by first | assumption | omega)] | rw [if_neg (by first | assumption | omega | (intro hk; exact hk (by assumption)))])) dX7_exchange_36
set_option maxHeartbeats 4000000 in
set_option maxRecDepth 100000 in
theorem c0_leastMendingSwap (l : Launch) (D : va_G) (cT : Nat → ClassId) (ad : Adr) (τ ρ : Tau) (hI : Rng τ) (b : Nat) (hlb : (b : Int) < τ 18 0) (hw : WhP τ b) (htd : tdO τ b = true) : Met l yX0_leastMendingSwap wsX0_leastMendingSwap { frames := 5, cells := 0, slots := 0, locals := 111 } (cPc D cT ad τ ρ [.ref (ad 19 b), .int (iI (τ 25 0)), .int (iI (τ 25 1))]) (cQ D cT ad (some (.int (iI (swO τ b)))) τ (τ) (fun _ => True)) 0 0 (CA ad τ) := by
  refine c_start (by decide) rfl (Nat.le_of_ble_eq_true rfl) ?_
  intro p e s m below meth c hx hb hr hlocks hml hts hown hW hK hNW ls hl
  have hinX0 : ∀ w ∈ wsX00, w ∈ wsX0_leastMendingSwap := by decide +kernel
  have hS : va_S (CA ad τ) s.heap s.heap [] := va_S.rf
  have hz : s.heap.size = s.heap.size := rfl
  have hR : Rng τ := hI
  have hl : lv_has ls 5 [(0, .ref (ad 19 b)), (1, .int (iI (τ 25 0))), (2, .int (iI (τ 25 1)))] := hl
  obtain ⟨N, hN⟩ : ∃ N : Nat, τ 19 b = N := ⟨(τ 19 b).toNat, by have : (0 : Int) ≤ τ 19 b ∧ τ 19 b ≤ 16 := hI 19 b; omega⟩
  have hN2 : (τ 19 b).toNat = N := by omega
  have hN3 : N ≤ 16 := by have : (0 : Int) ≤ τ 19 b ∧ τ 19 b ≤ 16 := hI 19 b; omega
  refine z_iconst hx hb dX0_leastMendingSwap_0 ?_
  refine lv_istore_n (lv' := [(3, .int (iI (0))), (0, .ref (ad 19 b)), (1, .int (iI (τ 25 0))), (2, .int (iI (τ 25 1)))]) hx hb dX0_leastMendingSwap_1 rfl hl (by decide) rfl (fun ls hl => ?_)
  have lp2 : ∀ (n2 k : Nat) (x3 : Int), x3 = (k : Int) → k ≤ (N - 1) → (N - 1) + 1 ≤ k + n2 → (∀ j, j < k → swB τ b j = false) → ∀ (ρ2 : Tau) (H : Heap) (locs : List Loc), CW D cT ad (τ) ρ2 H → va_S (CA ad τ) s.heap H locs → H.size = s.heap.size → Rng (τ) → ∀ ls : Array Slot, lv_has ls 5 [(3, .int (iI (x3))), (0, .ref (ad 19 b)), (1, .int (iI (τ 25 0))), (2, .int (iI (τ 25 1)))] → W p l e { frames := 5, cells := 0, slots := 0, locals := 111 } s m [.ref (ad 19 b), .int (iI (τ 25 0)), .int (iI (τ 25 1))].toArray below meth c H locs 0 0 (MQ below (cQ D cT ad (some (.int (iI (swO τ b)))) τ (τ) (fun _ => True)) [.ref (ad 19 b), .int (iI (τ 25 0)), .int (iI (τ 25 1))].toArray s 0 0 (CA ad τ)) (F0 m 2 ls []) := by
    intro n2
    induction n2 with
    | zero => intro k x3  ex3 hk1 hk2; exact absurd hk2 (by omega)
    | succ n2 ih2 =>
      intro k x3  ex3 hk1 hk2 hn ρ2 H locs hW hS hz hR ls hl
      subst ex3
      refine lv_iload_n hx hb dX0_leastMendingSwap_2 rfl (lv_at hl 0 rfl) ?_
      refine z_iconst hx hb dX0_leastMendingSwap_3 ?_
      refine z_iadd hx hb dX0_leastMendingSwap_4 ?_
      refine lv_aload_n hx hb dX0_leastMendingSwap_5 rfl (lv_at hl 1 rfl) ?_
      refine y_get (C := RX0) (T := TX0) (N := 2) (ref := "CoreShed$Batch") (ci := 0) hx hb hts hinX0 hown hK (cw19 hW (i := b) (by omega)) rfl 1 (by decide) (hts _ (by decide +kernel)) rfl (v := .int (iI (τ 19 b))) rfl dX0_leastMendingSwap_6 ?_
      have r1 : (0 : Int) ≤ τ 19 b ∧ τ 19 b ≤ 16 := hI 19 b
      refine z_icmp_ge (tgt := 67) hx hb (by omega) (by omega) dX0_leastMendingSwap_9 (by decide) (fun c2 => ?_) (fun c2 => ?_)
      · refine z_iconst hx hb dX0_leastMendingSwap_67 ?_
        exact c_iret hx hb hr hlocks (⟨trivial, hW⟩) hS hz (by unfold swO; rw [hN2, show N - 1 = k by omega]; exact (ff_no hn).symm) dX0_leastMendingSwap_68
      · refine lv_aload_n hx hb dX0_leastMendingSwap_12 rfl (lv_at hl 1 rfl) ?_
        refine y_get (C := RX0) (T := TX0) (N := 2) (ref := "CoreShed$Batch") (ci := 0) hx hb hts hinX0 hown hK (cw19 hW (i := b) (by omega)) rfl 0 (by decide) (hts _ (by decide +kernel)) rfl (v := .ref (ad 20 b)) rfl dX0_leastMendingSwap_13 ?_
        refine lv_iload_n hx hb dX0_leastMendingSwap_16 rfl (lv_at hl 0 rfl) ?_
        refine y_aaldS (ty := .object "CoreShed$Place") (j := k) (q := ad 21 (16 * b + k)) hx hb hK 5 rfl (cw20 hW (i := b) (by omega)) rfl (by omega) (by omega) (by decide) (if_pos (by omega)) dX0_leastMendingSwap_17 ?_
        refine lv_aload_n hx hb dX0_leastMendingSwap_18 rfl (lv_at hl 1 rfl) ?_
        refine y_get (C := RX0) (T := TX0) (N := 2) (ref := "CoreShed$Batch") (ci := 0) hx hb hts hinX0 hown hK (cw19 hW (i := b) (by omega)) rfl 0 (by decide) (hts _ (by decide +kernel)) rfl (v := .ref (ad 20 b)) rfl dX0_leastMendingSwap_19 ?_
        refine lv_iload_n hx hb dX0_leastMendingSwap_22 rfl (lv_at hl 0 rfl) ?_
        refine z_iconst hx hb dX0_leastMendingSwap_23 ?_
        refine z_iadd hx hb dX0_leastMendingSwap_24 ?_
        refine y_aaldS (ty := .object "CoreShed$Place") (j := k + 1) (q := ad 21 (16 * b + (k + 1))) hx hb hK 5 rfl (cw20 hW (i := b) (by omega)) rfl (by omega) (by omega) (by decide) (if_pos (by omega)) dX0_leastMendingSwap_25 ?_
        refine c_callW (n := 1) (As := [.ref (ad 21 (16 * b + (k + 1)))]) (rest := []) hx hb hml hts hown hK hNW hW (va_recv hK (cw21 hW (b := b) (q := k) (by omega) (by omega) (by omega)) (ci := 5) (q0 := 0) rfl rfl) hS hz (fun q h => h) (c5_exchangeResult l D cT ad τ ρ2 hI b (by omega) k (by omega) (by omega) (by omega)) gX0_leastMendingSwap_X5_exchangeResult rfl rfl rfl (by decide +kernel) ⟨by decide, by decide⟩ rfl hl.1 rfl (Nat.le_of_ble_eq_true rfl) ⟨Nat.zero_le _, Nat.zero_le _⟩ dX0_leastMendingSwap_26 (fun ρ2 hq H locs hW hS hz => ?_)
        have hW : CW D cT ad (tnT τ b k) ρ2 H := hW
        have hR := tn_R (b := b) (q := k) hR
        refine lv_aload_n hx hb dX0_leastMendingSwap_29 rfl (lv_at hl 1 rfl) ?_
        refine lv_iload_n hx hb dX0_leastMendingSwap_30 rfl (lv_at hl 2 rfl) ?_
        refine lv_iload_n hx hb dX0_leastMendingSwap_31 rfl (lv_at hl 3 rfl) ?_
        refine c_call (n := 2) (As := [.int (iI (τ 25 0)), .int (iI (τ 25 1))]) (rest := []) hx hb hml hts hown hK hNW hW (va_recv hK (cw19 hW (i := b) (by rw [tn_n (by decide)]; omega)) (ci := 0) (q0 := 0) rfl rfl) (c0_isSound l D cT ad (tnT τ b k) ρ2 hR b (by rw [tn_n (by decide)]; omega) (tn_wh hw)) gX0_leastMendingSwap_X0_isSound rfl rfl rfl (by decide +kernel) ⟨by decide, by decide⟩ rfl hl.1 rfl (Nat.le_of_ble_eq_true rfl) ⟨Nat.zero_le _, Nat.zero_le _⟩ dX0_leastMendingSwap_32 ?_
        refine lv_istore (lv' := [(4, .int (iI (bI (snB (tnT τ b k) b = true)))), (3, .int (iI ((k : Int)))), (0, .ref (ad 19 b)), (1, .int (iI (τ 25 0))), (2, .int (iI (τ 25 1)))]) hx hb dX0_leastMendingSwap_35 hl (by decide) rfl (fun ls hl => ?_)
        refine lv_aload_n hx hb dX0_leastMendingSwap_37 rfl (lv_at hl 2 rfl) ?_
        refine y_get (C := RX0) (T := TX0) (N := 2) (ref := "CoreShed$Batch") (ci := 0) hx hb hts hinX0 hown hK (cw19 hW (i := b) (by rw [tn_n (by decide)]; omega)) rfl 0 (by decide) (hts _ (by decide +kernel)) rfl (v := .ref (ad 20 b)) rfl dX0_leastMendingSwap_38 ?_
        refine lv_iload_n hx hb dX0_leastMendingSwap_41 rfl (lv_at hl 1 rfl) ?_
        refine y_aaldS (ty := .object "CoreShed$Place") (j := k) (q := ad 21 (16 * b + k)) hx hb hK 5 rfl (cw20 hW (i := b) (by rw [tn_n (by decide)]; omega)) rfl (by omega) (by omega) (by decide) (if_pos (by rw [tn_n (by decide)]; omega)) dX0_leastMendingSwap_42 ?_
        refine lv_aload_n hx hb dX0_leastMendingSwap_43 rfl (lv_at hl 2 rfl) ?_
        refine y_get (C := RX0) (T := TX0) (N := 2) (ref := "CoreShed$Batch") (ci := 0) hx hb hts hinX0 hown hK (cw19 hW (i := b) (by rw [tn_n (by decide)]; omega)) rfl 0 (by decide) (hts _ (by decide +kernel)) rfl (v := .ref (ad 20 b)) rfl dX0_leastMendingSwap_44 ?_
        refine lv_iload_n hx hb dX0_leastMendingSwap_47 rfl (lv_at hl 1 rfl) ?_
        refine z_iconst hx hb dX0_leastMendingSwap_48 ?_
        refine z_iadd hx hb dX0_leastMendingSwap_49 ?_
        refine y_aaldS (ty := .object "CoreShed$Place") (j := k + 1) (q := ad 21 (16 * b + (k + 1))) hx hb hK 5 rfl (cw20 hW (i := b) (by rw [tn_n (by decide)]; omega)) rfl (by omega) (by omega) (by decide) (if_pos (by rw [tn_n (by decide)]; omega)) dX0_leastMendingSwap_50 ?_
        refine c_callW (n := 1) (As := [.ref (ad 21 (16 * b + (k + 1)))]) (rest := []) hx hb hml hts hown hK hNW hW (va_recv hK (cw21 hW (b := b) (q := k) (by rw [tn_n (by decide)]; omega) (by rw [tn_n (by decide)]; omega) (by omega)) (ci := 5) (q0 := 0) rfl rfl) hS hz (fun q h => CA_tn q h) (c5_exchangeResult l D cT ad (tnT τ b k) ρ2 hR b (by rw [tn_n (by decide)]; omega) k (by rw [tn_n (by decide)]; omega) (by rw [tn_n (by decide)]; omega) (by omega)) gX0_leastMendingSwap_X5_exchangeResult rfl rfl rfl (by decide +kernel) ⟨by decide, by decide⟩ rfl hl.1 rfl (Nat.le_of_ble_eq_true rfl) ⟨Nat.zero_le _, Nat.zero_le _⟩ dX0_leastMendingSwap_51 (fun ρ2 hq H locs hW hS hz => ?_)
        have hW : CW D cT ad (tnT (tnT τ b k) b k) ρ2 H := hW
        rw [tn_tn] at hW
        have hR := hI
        refine lv_iload hx hb dX0_leastMendingSwap_54 (lv_at hl 0 rfl) ?_
        refine z_if_eqB (tgt := 61) hx hb dX0_leastMendingSwap_56 (by decide) (fun c3 => ?_) (fun c3 => ?_)
        · refine z_iinc (k := 1) (lv' := [(3, .int (iI ((k : Int) + 1))), (4, .int (iI (bI (snB (tnT τ b k) b = true)))), (0, .ref (ad 19 b)), (1, .int (iI (τ 25 0))), (2, .int (iI (τ 25 1)))]) hx hb dX0_leastMendingSwap_61 hl rfl (by decide) rfl (fun ls hl => ?_)
          refine lv_goto (tgt := 2) hx hb dX0_leastMendingSwap_64 (by decide) ?_
          exact ih2 (k + 1) ((k : Int) + 1)  (by omega) (by omega) (by omega) (fl_s hn (by unfold swB; exact decide_eq_false (fun hk => c3 (by unfold snB; rw [td_tn, htd, decide_eq_true hk]; rfl)))) _ _ _ hW hS hz hR ls (lv_sub hl [0, 2, 3, 4] rfl)
        · refine lv_iload_n hx hb dX0_leastMendingSwap_59 rfl (lv_at hl 1 rfl) ?_
          exact c_iret hx hb hr hlocks (⟨trivial, hW⟩) hS hz (by unfold swO; rw [hN2]; exact (ff_at hn (by unfold swB; have h9 := c3; unfold snB at h9; rw [td_tn, htd, Bool.true_and] at h9; exact h9) (by omega)).symm) dX0_leastMendingSwap_60
  exact lp2 ((N - 1) + 1) 0 0  (by omega) (by omega) (by omega) fl_0 _ _ _ hW hS hz hR ls (lv_sub hl [0, 1, 2, 3] rfl)
set_option maxHeartbeats 4000000 in
set_option maxRecDepth 100000 in
theorem c7_swap (l : Launch) (D : va_G) (cT : Nat → ClassId) (ad : Adr) (τ ρ : Tau) (hI : Inv τ) (a : Int) (h_a : I32 a)  : Met l yX7_swap wsX7_swap { frames := 6, cells := 0, slots := 0, locals := 135 } (cPc D cT ad τ ρ [.ref (ad 0 0), .int (iI (a))]) (cQ D cT ad (some (.int (iI (spSwap τ a)))) τ (τ) (fun _ => True)) 0 0 (CA ad τ) := by
  refine c_start (by decide) rfl (Nat.le_of_ble_eq_true rfl) ?_
  intro p e s m below meth c hx hb hr hlocks hml hts hown hW hK hNW ls hl
  have hinX7 : ∀ w ∈ wsX70, w ∈ wsX7_swap := by decide +kernel
  have hS : va_S (CA ad τ) s.heap s.heap [] := va_S.rf
  have hz : s.heap.size = s.heap.size := rfl
  have hR : Rng τ := hI.1
  have hl : lv_has ls 3 [(0, .ref (ad 0 0)), (1, .int (iI (a)))] := hl
  have hq18_0 : (0 : Int) ≤ τ 18 0 ∧ τ 18 0 ≤ 6 := hI.1 18 0
  by_cases hh : 0 ≤ a ∧ a < τ 18 0
  · refine lv_aload_n hx hb dX7_swap_0 rfl (lv_at hl 0 rfl) ?_
    refine lv_iload_n hx hb dX7_swap_1 rfl (lv_at hl 1 rfl) ?_
    refine c_callR (n := 1) (As := [.int (iI (a))]) (rest := []) hx hb hml hts hown hK hNW hW (va_recv hK (cw0 hW) (ci := 7) (q0 := 0) rfl rfl) (c7_batchNamed_some l D cT ad τ ρ hI.1 a.toNat a (by omega) (by omega)) gX7_swap_X7_batchNamed rfl rfl rfl (by decide +kernel) ⟨by decide, by decide⟩ rfl hl.1 rfl (Nat.le_of_ble_eq_true rfl) ⟨Nat.zero_le _, Nat.zero_le _⟩ dX7_swap_2 ?_
    refine lv_astore_n (lv' := [(2, .ref (ad 19 a.toNat)), (0, .ref (ad 0 0)), (1, .int (iI (a)))]) hx hb dX7_swap_5 rfl hl (by decide) rfl (fun ls hl => ?_)
    refine lv_aload_n hx hb dX7_swap_6 rfl (lv_at hl 0 rfl) ?_
    refine lv_ifnonnull (tgt := 13) hx hb dX7_swap_7 (by decide) ?_
    refine lv_aload_n hx hb dX7_swap_13 rfl (lv_at hl 0 rfl) ?_
    refine c_call (n := 0) (As := []) (rest := []) hx hb hml hts hown hK hNW hW (va_recv hK (cw19 hW (i := a.toNat) (by omega)) (ci := 0) (q0 := 0) rfl rfl) (c0_isComplete l D cT ad τ ρ hI.1 a.toNat (by omega)) gX7_swap_X0_isComplete rfl rfl rfl (by decide +kernel) ⟨by decide, by decide⟩ rfl hl.1 rfl (Nat.le_of_ble_eq_true rfl) ⟨Nat.zero_le _, Nat.zero_le _⟩ dX7_swap_14 ?_
    refine z_if_neB (tgt := 23) hx hb dX7_swap_17 (by decide) (fun c1 => ?_) (fun c1 => ?_)
    · refine lv_aload_n hx hb dX7_swap_23 rfl (lv_at hl 0 rfl) ?_
      refine lv_aload_n hx hb dX7_swap_24 rfl (lv_at hl 1 rfl) ?_
      refine y_get (C := RX7) (T := TX7) (N := 11) (ref := "CoreShed") (ci := 7) hx hb hts hinX7 hown hK (cw0 hW) rfl 9 (by decide) (hts _ (by decide +kernel)) rfl (v := .int (iI (τ 25 0))) rfl dX7_swap_25 ?_
      have r2 : (0 : Int) ≤ τ 25 0 ∧ τ 25 0 ≤ 1000 := hI.1 25 0
      refine lv_aload_n hx hb dX7_swap_28 rfl (lv_at hl 1 rfl) ?_
      refine y_get (C := RX7) (T := TX7) (N := 11) (ref := "CoreShed") (ci := 7) hx hb hts hinX7 hown hK (cw0 hW) rfl 10 (by decide) (hts _ (by decide +kernel)) rfl (v := .int (iI (τ 25 1))) rfl dX7_swap_29 ?_
      have r3 : (0 : Int) ≤ τ 25 1 ∧ τ 25 1 ≤ 1000 := hI.1 25 1
      refine c_call (n := 2) (As := [.int (iI (τ 25 0)), .int (iI (τ 25 1))]) (rest := []) hx hb hml hts hown hK hNW hW (va_recv hK (cw19 hW (i := a.toNat) (by omega)) (ci := 0) (q0 := 0) rfl rfl) (c0_isSound l D cT ad τ ρ hI.1 a.toNat (by omega) (hI.wh _)) gX7_swap_X0_isSound rfl rfl rfl (by decide +kernel) ⟨by decide, by decide⟩ rfl hl.1 rfl (Nat.le_of_ble_eq_true rfl) ⟨Nat.zero_le _, Nat.zero_le _⟩ dX7_swap_32 ?_
      refine z_if_eqB (tgt := 42) hx hb dX7_swap_35 (by decide) (fun c4 => ?_) (fun c4 => ?_)
      · refine lv_aload_n hx hb dX7_swap_42 rfl (lv_at hl 0 rfl) ?_
        refine lv_aload_n hx hb dX7_swap_43 rfl (lv_at hl 1 rfl) ?_
        refine y_get (C := RX7) (T := TX7) (N := 11) (ref := "CoreShed") (ci := 7) hx hb hts hinX7 hown hK (cw0 hW) rfl 9 (by decide) (hts _ (by decide +kernel)) rfl (v := .int (iI (τ 25 0))) rfl dX7_swap_44 ?_
        refine lv_aload_n hx hb dX7_swap_47 rfl (lv_at hl 1 rfl) ?_
        refine y_get (C := RX7) (T := TX7) (N := 11) (ref := "CoreShed") (ci := 7) hx hb hts hinX7 hown hK (cw0 hW) rfl 10 (by decide) (hts _ (by decide +kernel)) rfl (v := .int (iI (τ 25 1))) rfl dX7_swap_48 ?_
        refine c_callW (n := 2) (As := [.int (iI (τ 25 0)), .int (iI (τ 25 1))]) (rest := []) hx hb hml hts hown hK hNW hW (va_recv hK (cw19 hW (i := a.toNat) (by omega)) (ci := 0) (q0 := 0) rfl rfl) hS hz (fun q h => h) (c0_leastMendingSwap l D cT ad τ ρ hI.1 a.toNat (by omega) (hI.wh _) (by omega)) gX7_swap_X0_leastMendingSwap rfl rfl rfl (by decide +kernel) ⟨by decide, by decide⟩ rfl hl.1 rfl (Nat.le_of_ble_eq_true rfl) ⟨Nat.zero_le _, Nat.zero_le _⟩ dX7_swap_51 (fun ρ2 hq H locs hW hS hz => ?_)
        have hW : CW D cT ad τ ρ2 H := hW
        exact c_iret hx hb hr hlocks (⟨trivial, hW⟩) hS hz (by unfold spSwap; repeat (first | rw [if_pos (by first | assumption | omega)] | rw [if_neg (by first | assumption | omega | (intro hk; exact hk (by assumption)))])) dX7_swap_54
      · refine z_iconst hx hb dX7_swap_38 ?_
        refine lv_goto (tgt := 54) hx hb dX7_swap_39 (by decide) ?_
        exact c_iret hx hb hr hlocks (⟨trivial, hW⟩) hS hz (by unfold spSwap; repeat (first | rw [if_pos (by first | assumption | omega)] | rw [if_neg (by first | assumption | omega | (intro hk; exact hk (by assumption)))])) dX7_swap_54
    · refine z_bipush hx hb dX7_swap_20 (by decide) ?_
      exact c_iret hx hb hr hlocks (⟨trivial, hW⟩) hS hz (by unfold spSwap; repeat (first | rw [if_pos (by first | assumption | omega)] | rw [if_neg (by first | assumption | omega | (intro hk; exact hk (by assumption)))])) dX7_swap_22
  · refine lv_aload_n hx hb dX7_swap_0 rfl (lv_at hl 0 rfl) ?_
    refine lv_iload_n hx hb dX7_swap_1 rfl (lv_at hl 1 rfl) ?_
    refine c_callR (n := 1) (As := [.int (iI (a))]) (rest := []) hx hb hml hts hown hK hNW hW (va_recv hK (cw0 hW) (ci := 7) (q0 := 0) rfl rfl) (c7_batchNamed_none l D cT ad τ ρ hI.1 a (by omega) (by omega)) gX7_swap_X7_batchNamed rfl rfl rfl (by decide +kernel) ⟨by decide, by decide⟩ rfl hl.1 rfl (Nat.le_of_ble_eq_true rfl) ⟨Nat.zero_le _, Nat.zero_le _⟩ dX7_swap_2 ?_
    refine lv_astore_nN (lv' := [(2, .null), (0, .ref (ad 0 0)), (1, .int (iI (a)))]) hx hb dX7_swap_5 rfl hl (by decide) rfl (fun ls hl => ?_)
    refine lv_aload_nN hx hb dX7_swap_6 rfl (lv_at hl 0 rfl) ?_
    refine lv_ifnonnullN hx hb dX7_swap_7 ?_
    refine z_bipush hx hb dX7_swap_10 (by decide) ?_
    exact c_iret hx hb hr hlocks (⟨trivial, hW⟩) hS hz (by unfold spSwap; repeat (first | rw [if_pos (by first | assumption | omega)] | rw [if_neg (by first | assumption | omega | (intro hk; exact hk (by assumption)))])) dX7_swap_12
