set_option maxHeartbeats 4000000 in
set_option maxRecDepth 100000 in
theorem c2_init (l : Launch) (D : va_G) (cT : Nat → ClassId) (b z : Nat) : Met l yX2_init wsX2_init { frames := 1, cells := 2, slots := 40, locals := 20 } (nPc D (cTy cT) EW (fun H => H.size = z ∧ b < z ∧ OBJ D (b) 2 [.null, .null, .int (iI 0)] H) [.ref b]) (nQ none (fun q => q = b ∨ z ≤ q) (fun H => H.size = z + 2 ∧ OBJ D (b) 2 [.ref (z), .ref (z + 1), .int (iI 0)] H ∧ IAR D (z) (cT 0) 20 (fun _ => 0) H ∧ IAR D (z + 1) (cT 0) 20 (fun _ => 0) H)) 2 40 (fun q => q = b ∨ z ≤ q) := by
  refine n_start (by decide) rfl (Nat.le_of_ble_eq_true rfl) ?_
  intro p e s m below meth c hx hb hr hlocks hml hts hown hname hpre hK hE ls hl
  have hinX2 : ∀ w ∈ wsX20, w ∈ wsX2_init := by decide +kernel
  have hl : lv_has ls 1 [(0, .ref (b))] := hl
  have hS : va_S (fun q => q = b ∨ z ≤ q) s.heap s.heap [] := va_S.rf
  obtain ⟨hz, hbz, hc0⟩ := hpre
  refine lv_aload_n hx hb dX2_init_0 rfl (lv_at hl 0 rfl) ?_
  refine W.objInit hx hb hown (hts (.methodLink RX2 3 objectInit) (by decide +kernel)) (hts (.instanceMethod objectInit) (by decide +kernel)) (hts (.code objectInit ⟨#[0xb1]⟩ 1 none) (by decide +kernel)) rfl (by rw [hml]; exact hl.1) rfl dX2_init_1 (Nat.le_of_ble_eq_true rfl) (Nat.le_of_ble_eq_true rfl) ?_
  refine W.eq (g2 := F0 m 4 ls []) rfl ?_
  refine lv_aload_n hx hb dX2_init_4 rfl (lv_at hl 0 rfl) ?_
  refine z_bipush hx hb dX2_init_5 (by decide) ?_
  refine y_newa (atype := .int) (ty := .int) (cA := cT 0) (a := z) (n := 20) (N := 20) hx hb rfl (Or.inl rfl) (hts (.arrayClass .int) (by decide +kernel)) hK 0 rfl hS rfl (by decide) (Nat.le_of_ble_eq_true rfl) (Nat.le_of_ble_eq_true rfl) hz dX2_init_7 (fun H hc1 hz1 hold hS => ?_)
  have hc0 := one_kept hc0 (hold (b) (by omega))
  have hz : H.size = z + 1 := by omega
  refine y_putF (C := RX2) (T := TX2) (N := 3) (ref := "CoreShed$Log") (ci := 2) (v := .ref (z)) (ty := .array .int) hx hb hts hinX2 tyX2 tyX2_ok nmX2 hown hK hS hc0 (Or.inl rfl) rfl 0 (by decide) (hts _ (by decide +kernel)) rfl rfl hname rfl (by decide +kernel) rfl rfl (Nat.le_of_ble_eq_true rfl) dX2_init_9 (fun H locs hO hz1 hoq hS => ?_)
  have hc1 := one_kept hc1 (hoq (z) (by omega))
  have hc0 : OBJ D (b) 2 [.ref (z), .null, .int (iI 0)] H := hO
  have hz : H.size = z + 1 := by omega
  refine lv_aload_n hx hb dX2_init_12 rfl (lv_at hl 0 rfl) ?_
  refine z_bipush hx hb dX2_init_13 (by decide) ?_
  refine y_newa (atype := .int) (ty := .int) (cA := cT 0) (a := z + 1) (n := 20) (N := 20) hx hb rfl (Or.inl rfl) (hts (.arrayClass .int) (by decide +kernel)) hK 0 rfl hS rfl (by decide) (Nat.le_of_ble_eq_true rfl) (Nat.le_of_ble_eq_true rfl) hz dX2_init_15 (fun H hc2 hz1 hold hS => ?_)
  have hc0 := one_kept hc0 (hold (b) (by omega))
  have hc1 := one_kept hc1 (hold (z) (by omega))
  have hz : H.size = z + 2 := by omega
  refine y_putF (C := RX2) (T := TX2) (N := 3) (ref := "CoreShed$Log") (ci := 2) (v := .ref (z + 1)) (ty := .array .int) hx hb hts hinX2 tyX2 tyX2_ok nmX2 hown hK hS hc0 (Or.inl rfl) rfl 1 (by decide) (hts _ (by decide +kernel)) rfl rfl hname rfl (by decide +kernel) rfl rfl (Nat.le_of_ble_eq_true rfl) dX2_init_17 (fun H locs hO hz1 hoq hS => ?_)
  have hc1 := one_kept hc1 (hoq (z) (by omega))
  have hc2 := one_kept hc2 (hoq (z + 1) (by omega))
  have hc0 : OBJ D (b) 2 [.ref (z), .ref (z + 1), .int (iI 0)] H := hO
  have hz : H.size = z + 2 := by omega
  exact n_vret hx hb hr hlocks ⟨hz, hc0, hc1, hc2⟩ hS (Nat.le_of_ble_eq_true rfl) (Nat.le_of_ble_eq_true rfl) dX2_init_20
set_option maxHeartbeats 4000000 in
set_option maxRecDepth 100000 in
theorem c1_init (l : Launch) (D : va_G) (cT : Nat → ClassId) (b z : Nat) : Met l yX1_init wsX1_init { frames := 2, cells := 9, slots := 146, locals := 40 } (nPc D (cTy cT) EW (fun H => H.size = z ∧ b < z ∧ OBJ D (b) 1 [.null, .null, .null, .null, .null, .int (iI 0), .int (iI 0), .int (iI 0)] H) [.ref b]) (nQ none (fun q => q = b ∨ z ≤ q) (fun H => H.size = z + 9 ∧ OBJ D (b) 1 [.ref (z), .ref (z + 1), .ref (z + 2), .ref (z + 3), .ref (z + 6), .int (iI 0), .int (iI 0), .int (iI 0)] H ∧ IAR D (z) (cT 0) 20 (fun _ => 0) H ∧ IAR D (z + 1) (cT 0) 20 (fun _ => 0) H ∧ IAR D (z + 2) (cT 0) 20 (fun _ => 0) H ∧ OBJ D (z + 3) 2 [.ref (z + 4), .ref (z + 5), .int (iI 0)] H ∧ IAR D (z + 4) (cT 0) 20 (fun _ => 0) H ∧ IAR D (z + 5) (cT 0) 20 (fun _ => 0) H ∧ OBJ D (z + 6) 2 [.ref (z + 7), .ref (z + 8), .int (iI 0)] H ∧ IAR D (z + 7) (cT 0) 20 (fun _ => 0) H ∧ IAR D (z + 8) (cT 0) 20 (fun _ => 0) H)) 9 146 (fun q => q = b ∨ z ≤ q) := by
  refine n_start (by decide) rfl (Nat.le_of_ble_eq_true rfl) ?_
  intro p e s m below meth c hx hb hr hlocks hml hts hown hname hpre hK hE ls hl
  have hinX1 : ∀ w ∈ wsX10, w ∈ wsX1_init := by decide +kernel
  have hinX2 : ∀ w ∈ wsX20, w ∈ wsX1_init := by decide +kernel
  have hl : lv_has ls 1 [(0, .ref (b))] := hl
  have hS : va_S (fun q => q = b ∨ z ≤ q) s.heap s.heap [] := va_S.rf
  obtain ⟨hz, hbz, hc0⟩ := hpre
  refine lv_aload_n hx hb dX1_init_0 rfl (lv_at hl 0 rfl) ?_
  refine W.objInit hx hb hown (hts (.methodLink RX1 3 objectInit) (by decide +kernel)) (hts (.instanceMethod objectInit) (by decide +kernel)) (hts (.code objectInit ⟨#[0xb1]⟩ 1 none) (by decide +kernel)) rfl (by rw [hml]; exact hl.1) rfl dX1_init_1 (Nat.le_of_ble_eq_true rfl) (Nat.le_of_ble_eq_true rfl) ?_
  refine W.eq (g2 := F0 m 4 ls []) rfl ?_
  refine lv_aload_n hx hb dX1_init_4 rfl (lv_at hl 0 rfl) ?_
  refine z_bipush hx hb dX1_init_5 (by decide) ?_
  refine y_newa (atype := .int) (ty := .int) (cA := cT 0) (a := z) (n := 20) (N := 20) hx hb rfl (Or.inl rfl) (hts (.arrayClass .int) (by decide +kernel)) hK 0 rfl hS rfl (by decide) (Nat.le_of_ble_eq_true rfl) (Nat.le_of_ble_eq_true rfl) hz dX1_init_7 (fun H hc1 hz1 hold hS => ?_)
  have hc0 := one_kept hc0 (hold (b) (by omega))
  have hz : H.size = z + 1 := by omega
  refine y_putF (C := RX1) (T := TX1) (N := 8) (ref := "CoreShed$Hole") (ci := 1) (v := .ref (z)) (ty := .array .int) hx hb hts hinX1 tyX1 tyX1_ok nmX1 hown hK hS hc0 (Or.inl rfl) rfl 0 (by decide) (hts _ (by decide +kernel)) rfl rfl hname rfl (by decide +kernel) rfl rfl (Nat.le_of_ble_eq_true rfl) dX1_init_9 (fun H locs hO hz1 hoq hS => ?_)
  have hc1 := one_kept hc1 (hoq (z) (by omega))
  have hc0 : OBJ D (b) 1 [.ref (z), .null, .null, .null, .null, .int (iI 0), .int (iI 0), .int (iI 0)] H := hO
  have hz : H.size = z + 1 := by omega
  refine lv_aload_n hx hb dX1_init_12 rfl (lv_at hl 0 rfl) ?_
  refine z_bipush hx hb dX1_init_13 (by decide) ?_
  refine y_newa (atype := .int) (ty := .int) (cA := cT 0) (a := z + 1) (n := 20) (N := 20) hx hb rfl (Or.inl rfl) (hts (.arrayClass .int) (by decide +kernel)) hK 0 rfl hS rfl (by decide) (Nat.le_of_ble_eq_true rfl) (Nat.le_of_ble_eq_true rfl) hz dX1_init_15 (fun H hc2 hz1 hold hS => ?_)
  have hc0 := one_kept hc0 (hold (b) (by omega))
  have hc1 := one_kept hc1 (hold (z) (by omega))
  have hz : H.size = z + 2 := by omega
  refine y_putF (C := RX1) (T := TX1) (N := 8) (ref := "CoreShed$Hole") (ci := 1) (v := .ref (z + 1)) (ty := .array .int) hx hb hts hinX1 tyX1 tyX1_ok nmX1 hown hK hS hc0 (Or.inl rfl) rfl 1 (by decide) (hts _ (by decide +kernel)) rfl rfl hname rfl (by decide +kernel) rfl rfl (Nat.le_of_ble_eq_true rfl) dX1_init_17 (fun H locs hO hz1 hoq hS => ?_)
  have hc1 := one_kept hc1 (hoq (z) (by omega))
  have hc2 := one_kept hc2 (hoq (z + 1) (by omega))
  have hc0 : OBJ D (b) 1 [.ref (z), .ref (z + 1), .null, .null, .null, .int (iI 0), .int (iI 0), .int (iI 0)] H := hO
  have hz : H.size = z + 2 := by omega
  refine lv_aload_n hx hb dX1_init_20 rfl (lv_at hl 0 rfl) ?_
  refine z_bipush hx hb dX1_init_21 (by decide) ?_
  refine y_newa (atype := .int) (ty := .int) (cA := cT 0) (a := z + 2) (n := 20) (N := 20) hx hb rfl (Or.inl rfl) (hts (.arrayClass .int) (by decide +kernel)) hK 0 rfl hS rfl (by decide) (Nat.le_of_ble_eq_true rfl) (Nat.le_of_ble_eq_true rfl) hz dX1_init_23 (fun H hc3 hz1 hold hS => ?_)
  have hc0 := one_kept hc0 (hold (b) (by omega))
  have hc1 := one_kept hc1 (hold (z) (by omega))
  have hc2 := one_kept hc2 (hold (z + 1) (by omega))
  have hz : H.size = z + 3 := by omega
  refine y_putF (C := RX1) (T := TX1) (N := 8) (ref := "CoreShed$Hole") (ci := 1) (v := .ref (z + 2)) (ty := .array .int) hx hb hts hinX1 tyX1 tyX1_ok nmX1 hown hK hS hc0 (Or.inl rfl) rfl 2 (by decide) (hts _ (by decide +kernel)) rfl rfl hname rfl (by decide +kernel) rfl rfl (Nat.le_of_ble_eq_true rfl) dX1_init_25 (fun H locs hO hz1 hoq hS => ?_)
  have hc1 := one_kept hc1 (hoq (z) (by omega))
  have hc2 := one_kept hc2 (hoq (z + 1) (by omega))
  have hc3 := one_kept hc3 (hoq (z + 2) (by omega))
  have hc0 : OBJ D (b) 1 [.ref (z), .ref (z + 1), .ref (z + 2), .null, .null, .int (iI 0), .int (iI 0), .int (iI 0)] H := hO
  have hz : H.size = z + 3 := by omega
  refine lv_aload_n hx hb dX1_init_28 rfl (lv_at hl 0 rfl) ?_
  refine y_new (a := z + 3) (C := RX2) (T := TX2) (N := 3) (ci := 2) (fs := [.null, .null, .int (iI 0)]) hx hb hts hinX2 tyX2 tyX2_ok hown (hts (.classLink RX1 21 RX2) (by decide +kernel)) (hts (.instantiable RX2 3) (by decide +kernel)) (hts (.initialized RX2) (by decide +kernel)) hK hS rfl (fun j hj => by rcases (show j = 0 ∨ j = 1 ∨ j = 2 by omega) with rfl | rfl | rfl <;> rfl) (Nat.le_of_ble_eq_true rfl) (Nat.le_of_ble_eq_true rfl) hz dX1_init_29 (fun H hc4 hz1 hold hS => ?_)
  have hc0 := one_kept hc0 (hold (b) (by omega))
  have hc1 := one_kept hc1 (hold (z) (by omega))
  have hc2 := one_kept hc2 (hold (z + 1) (by omega))
  have hc3 := one_kept hc3 (hold (z + 2) (by omega))
  have hz : H.size = z + 4 := by omega
  refine lv_dup hx hb dX1_init_32 rfl ?_
  refine n_callIN (n := 0) (b := z + 3) (As := []) (rest := [.ref (z + 3), .ref (b)]) hx hb hml hts hown EW_mv hK hE (show H.size = z + 4 ∧ (z + 3) < z + 4 ∧ OBJ D (z + 3) 2 [.null, .null, .int (iI 0)] H from ⟨hz, by omega, hc4⟩) hS (fun q (h : q = z + 3 ∨ z + 4 ≤ q) => (show q = b ∨ z ≤ q from Or.inr (by omega))) (c2_init l D cT (z + 3) (z + 4)) gX1_init_X2_init_n23 rfl rfl rfl (hts (.initialized RX2) (by decide +kernel)) hE.1.2.2.2.2.2.1 (hts (.instanceMethod yX2_init) (by decide +kernel)) rfl (by decide +kernel) ⟨by decide, by decide⟩ rfl hl.1 rfl (Nat.le_of_ble_eq_true rfl) ⟨(Nat.le_of_ble_eq_true rfl), (Nat.le_of_ble_eq_true rfl)⟩ dX1_init_33 (fun H locs hp hzz hk hS => ?_)
  obtain ⟨hz, hc5, hc6, hc7⟩ := hp
  have hc0 := one_kept hc0 (hk (b) (by omega) (fun (h : b = z + 3 ∨ z + 4 ≤ b) => by omega))
  have hc1 := one_kept hc1 (hk (z) (by omega) (fun (h : z = z + 3 ∨ z + 4 ≤ z) => by omega))
  have hc2 := one_kept hc2 (hk (z + 1) (by omega) (fun (h : z + 1 = z + 3 ∨ z + 4 ≤ z + 1) => by omega))
  have hc3 := one_kept hc3 (hk (z + 2) (by omega) (fun (h : z + 2 = z + 3 ∨ z + 4 ≤ z + 2) => by omega))
  have hc5 : OBJ D (z + 3) 2 [.ref (z + 4), .ref (z + 5), .int (iI 0)] H := hc5
  have hc6 : IAR D (z + 4) (cT 0) 20 (fun _ => 0) H := hc6
  have hc7 : IAR D (z + 5) (cT 0) 20 (fun _ => 0) H := hc7
  have hz : H.size = z + 6 := by omega
  refine y_putF (C := RX1) (T := TX1) (N := 8) (ref := "CoreShed$Hole") (ci := 1) (v := .ref (z + 3)) (ty := .object "CoreShed$Log") hx hb hts hinX1 tyX1 tyX1_ok nmX1 hown hK hS hc0 (Or.inl rfl) rfl 3 (by decide) (hts _ (by decide +kernel)) rfl rfl hname rfl (by decide +kernel) rfl rfl (Nat.le_of_ble_eq_true rfl) dX1_init_36 (fun H locs hO hz1 hoq hS => ?_)
  have hc1 := one_kept hc1 (hoq (z) (by omega))
  have hc2 := one_kept hc2 (hoq (z + 1) (by omega))
  have hc3 := one_kept hc3 (hoq (z + 2) (by omega))
  have hc5 := one_kept hc5 (hoq (z + 3) (by omega))
  have hc6 := one_kept hc6 (hoq (z + 4) (by omega))
  have hc7 := one_kept hc7 (hoq (z + 5) (by omega))
  have hc0 : OBJ D (b) 1 [.ref (z), .ref (z + 1), .ref (z + 2), .ref (z + 3), .null, .int (iI 0), .int (iI 0), .int (iI 0)] H := hO
  have hz : H.size = z + 6 := by omega
  refine lv_aload_n hx hb dX1_init_39 rfl (lv_at hl 0 rfl) ?_
  refine y_new (a := z + 6) (C := RX2) (T := TX2) (N := 3) (ci := 2) (fs := [.null, .null, .int (iI 0)]) hx hb hts hinX2 tyX2 tyX2_ok hown (hts (.classLink RX1 21 RX2) (by decide +kernel)) (hts (.instantiable RX2 3) (by decide +kernel)) (hts (.initialized RX2) (by decide +kernel)) hK hS rfl (fun j hj => by rcases (show j = 0 ∨ j = 1 ∨ j = 2 by omega) with rfl | rfl | rfl <;> rfl) (Nat.le_of_ble_eq_true rfl) (Nat.le_of_ble_eq_true rfl) hz dX1_init_40 (fun H hc8 hz1 hold hS => ?_)
  have hc0 := one_kept hc0 (hold (b) (by omega))
  have hc1 := one_kept hc1 (hold (z) (by omega))
  have hc2 := one_kept hc2 (hold (z + 1) (by omega))
  have hc3 := one_kept hc3 (hold (z + 2) (by omega))
  have hc5 := one_kept hc5 (hold (z + 3) (by omega))
  have hc6 := one_kept hc6 (hold (z + 4) (by omega))
  have hc7 := one_kept hc7 (hold (z + 5) (by omega))
  have hz : H.size = z + 7 := by omega
  refine lv_dup hx hb dX1_init_43 rfl ?_
  refine n_callIN (n := 0) (b := z + 6) (As := []) (rest := [.ref (z + 6), .ref (b)]) hx hb hml hts hown EW_mv hK hE (show H.size = z + 7 ∧ (z + 6) < z + 7 ∧ OBJ D (z + 6) 2 [.null, .null, .int (iI 0)] H from ⟨hz, by omega, hc8⟩) hS (fun q (h : q = z + 6 ∨ z + 7 ≤ q) => (show q = b ∨ z ≤ q from Or.inr (by omega))) (c2_init l D cT (z + 6) (z + 7)) gX1_init_X2_init_n23 rfl rfl rfl (hts (.initialized RX2) (by decide +kernel)) hE.1.2.2.2.2.2.1 (hts (.instanceMethod yX2_init) (by decide +kernel)) rfl (by decide +kernel) ⟨by decide, by decide⟩ rfl hl.1 rfl (Nat.le_of_ble_eq_true rfl) ⟨(Nat.le_of_ble_eq_true rfl), (Nat.le_of_ble_eq_true rfl)⟩ dX1_init_44 (fun H locs hp hzz hk hS => ?_)
  obtain ⟨hz, hc9, hc10, hc11⟩ := hp
  have hc0 := one_kept hc0 (hk (b) (by omega) (fun (h : b = z + 6 ∨ z + 7 ≤ b) => by omega))
  have hc1 := one_kept hc1 (hk (z) (by omega) (fun (h : z = z + 6 ∨ z + 7 ≤ z) => by omega))
  have hc2 := one_kept hc2 (hk (z + 1) (by omega) (fun (h : z + 1 = z + 6 ∨ z + 7 ≤ z + 1) => by omega))
  have hc3 := one_kept hc3 (hk (z + 2) (by omega) (fun (h : z + 2 = z + 6 ∨ z + 7 ≤ z + 2) => by omega))
  have hc5 := one_kept hc5 (hk (z + 3) (by omega) (fun (h : z + 3 = z + 6 ∨ z + 7 ≤ z + 3) => by omega))
  have hc6 := one_kept hc6 (hk (z + 4) (by omega) (fun (h : z + 4 = z + 6 ∨ z + 7 ≤ z + 4) => by omega))
  have hc7 := one_kept hc7 (hk (z + 5) (by omega) (fun (h : z + 5 = z + 6 ∨ z + 7 ≤ z + 5) => by omega))
  have hc9 : OBJ D (z + 6) 2 [.ref (z + 7), .ref (z + 8), .int (iI 0)] H := hc9
  have hc10 : IAR D (z + 7) (cT 0) 20 (fun _ => 0) H := hc10
  have hc11 : IAR D (z + 8) (cT 0) 20 (fun _ => 0) H := hc11
  have hz : H.size = z + 9 := by omega
  refine y_putF (C := RX1) (T := TX1) (N := 8) (ref := "CoreShed$Hole") (ci := 1) (v := .ref (z + 6)) (ty := .object "CoreShed$Log") hx hb hts hinX1 tyX1 tyX1_ok nmX1 hown hK hS hc0 (Or.inl rfl) rfl 4 (by decide) (hts _ (by decide +kernel)) rfl rfl hname rfl (by decide +kernel) rfl rfl (Nat.le_of_ble_eq_true rfl) dX1_init_47 (fun H locs hO hz1 hoq hS => ?_)
  have hc1 := one_kept hc1 (hoq (z) (by omega))
  have hc2 := one_kept hc2 (hoq (z + 1) (by omega))
  have hc3 := one_kept hc3 (hoq (z + 2) (by omega))
  have hc5 := one_kept hc5 (hoq (z + 3) (by omega))
  have hc6 := one_kept hc6 (hoq (z + 4) (by omega))
  have hc7 := one_kept hc7 (hoq (z + 5) (by omega))
  have hc9 := one_kept hc9 (hoq (z + 6) (by omega))
  have hc10 := one_kept hc10 (hoq (z + 7) (by omega))
  have hc11 := one_kept hc11 (hoq (z + 8) (by omega))
  have hc0 : OBJ D (b) 1 [.ref (z), .ref (z + 1), .ref (z + 2), .ref (z + 3), .ref (z + 6), .int (iI 0), .int (iI 0), .int (iI 0)] H := hO
  have hz : H.size = z + 9 := by omega
  exact n_vret hx hb hr hlocks ⟨hz, hc0, hc1, hc2, hc3, hc5, hc6, hc7, hc9, hc10, hc11⟩ hS (Nat.le_of_ble_eq_true rfl) (Nat.le_of_ble_eq_true rfl) dX1_init_50
set_option maxHeartbeats 4000000 in
set_option maxRecDepth 100000 in
theorem c6_init (l : Launch) (D : va_G) (cT : Nat → ClassId) (b z : Nat) (x : Int) (u : Int) (v : Int) : Met l yX6_init wsX6_init { frames := 1, cells := 0, slots := 0, locals := 20 } (nPc D (cTy cT) EW (fun H => H.size = z ∧ b < z ∧ OBJ D (b) 6 [.int (iI 0), .int (iI 0), .int (iI 0), .int (iI 0)] H) [.ref b, .int (iI (x)), .int (iI (u)), .int (iI (v))]) (nQ none (fun q => q = b ∨ z ≤ q) (fun H => H.size = z ∧ OBJ D (b) 6 [.int (iI (x)), .int (iI (u)), .int (iI (v)), .int (iI (4))] H)) 0 0 (fun q => q = b ∨ z ≤ q) := by
  refine n_start (by decide) rfl (Nat.le_of_ble_eq_true rfl) ?_
  intro p e s m below meth c hx hb hr hlocks hml hts hown hname hpre hK hE ls hl
  have hinX6 : ∀ w ∈ wsX60, w ∈ wsX6_init := by decide +kernel
  have hl : lv_has ls 4 [(0, .ref (b)), (1, .int (iI (x))), (2, .int (iI (u))), (3, .int (iI (v)))] := hl
  have hS : va_S (fun q => q = b ∨ z ≤ q) s.heap s.heap [] := va_S.rf
  obtain ⟨hz, hbz, hc0⟩ := hpre
  refine lv_aload_n hx hb dX6_init_0 rfl (lv_at hl 0 rfl) ?_
  refine W.objInit hx hb hown (hts (.methodLink RX6 3 objectInit) (by decide +kernel)) (hts (.instanceMethod objectInit) (by decide +kernel)) (hts (.code objectInit ⟨#[0xb1]⟩ 1 none) (by decide +kernel)) rfl (by rw [hml]; exact hl.1) rfl dX6_init_1 (Nat.le_of_ble_eq_true rfl) (Nat.le_of_ble_eq_true rfl) ?_
  refine W.eq (g2 := F0 m 4 ls []) rfl ?_
  refine lv_aload_n hx hb dX6_init_4 rfl (lv_at hl 0 rfl) ?_
  refine z_iconst hx hb dX6_init_5 ?_
  refine y_put (C := RX6) (T := TX6) (N := 4) (ref := "CoreShed$Sample") (ci := 6) (v := .int (iI (4))) (ty := .int) hx hb hts hinX6 tyX6 tyX6_ok nmX6 hown hK hS hc0 (Or.inl rfl) rfl 3 (by decide) (hts _ (by decide +kernel)) rfl rfl (by decide +kernel) rfl rfl (Nat.le_of_ble_eq_true rfl) dX6_init_6 (fun H locs hO hz1 hoq hS => ?_)
  have hc0 : OBJ D (b) 6 [.int (iI 0), .int (iI 0), .int (iI 0), .int (iI (4))] H := hO
  have hz : H.size = z := by omega
  refine lv_aload_n hx hb dX6_init_9 rfl (lv_at hl 0 rfl) ?_
  refine lv_iload_n hx hb dX6_init_10 rfl (lv_at hl 1 rfl) ?_
  refine y_putF (C := RX6) (T := TX6) (N := 4) (ref := "CoreShed$Sample") (ci := 6) (v := .int (iI (x))) (ty := .int) hx hb hts hinX6 tyX6 tyX6_ok nmX6 hown hK hS hc0 (Or.inl rfl) rfl 0 (by decide) (hts _ (by decide +kernel)) rfl rfl hname rfl (by decide +kernel) rfl rfl (Nat.le_of_ble_eq_true rfl) dX6_init_11 (fun H locs hO hz1 hoq hS => ?_)
  have hc0 : OBJ D (b) 6 [.int (iI (x)), .int (iI 0), .int (iI 0), .int (iI (4))] H := hO
  have hz : H.size = z := by omega
  refine lv_aload_n hx hb dX6_init_14 rfl (lv_at hl 0 rfl) ?_
  refine lv_iload_n hx hb dX6_init_15 rfl (lv_at hl 2 rfl) ?_
  refine y_putF (C := RX6) (T := TX6) (N := 4) (ref := "CoreShed$Sample") (ci := 6) (v := .int (iI (u))) (ty := .int) hx hb hts hinX6 tyX6 tyX6_ok nmX6 hown hK hS hc0 (Or.inl rfl) rfl 1 (by decide) (hts _ (by decide +kernel)) rfl rfl hname rfl (by decide +kernel) rfl rfl (Nat.le_of_ble_eq_true rfl) dX6_init_16 (fun H locs hO hz1 hoq hS => ?_)
  have hc0 : OBJ D (b) 6 [.int (iI (x)), .int (iI (u)), .int (iI 0), .int (iI (4))] H := hO
  have hz : H.size = z := by omega
  refine lv_aload_n hx hb dX6_init_19 rfl (lv_at hl 0 rfl) ?_
  refine lv_iload_n hx hb dX6_init_20 rfl (lv_at hl 3 rfl) ?_
  refine y_putF (C := RX6) (T := TX6) (N := 4) (ref := "CoreShed$Sample") (ci := 6) (v := .int (iI (v))) (ty := .int) hx hb hts hinX6 tyX6 tyX6_ok nmX6 hown hK hS hc0 (Or.inl rfl) rfl 2 (by decide) (hts _ (by decide +kernel)) rfl rfl hname rfl (by decide +kernel) rfl rfl (Nat.le_of_ble_eq_true rfl) dX6_init_21 (fun H locs hO hz1 hoq hS => ?_)
  have hc0 : OBJ D (b) 6 [.int (iI (x)), .int (iI (u)), .int (iI (v)), .int (iI (4))] H := hO
  have hz : H.size = z := by omega
  exact n_vret hx hb hr hlocks ⟨hz, hc0⟩ hS (Nat.le_of_ble_eq_true rfl) (Nat.le_of_ble_eq_true rfl) dX6_init_24
set_option maxHeartbeats 4000000 in
set_option maxRecDepth 100000 in
theorem c5_init (l : Launch) (D : va_G) (cT : Nat → ClassId) (b z : Nat) (x : Int) (u : Int) (v : Int) : Met l yX5_init wsX5_init { frames := 1, cells := 0, slots := 0, locals := 20 } (nPc D (cTy cT) EW (fun H => H.size = z ∧ b < z ∧ OBJ D (b) 5 [.int (iI 0), .int (iI 0), .int (iI 0), .int (iI 0), .int (iI 0)] H) [.ref b, .int (iI (x)), .int (iI (u)), .int (iI (v))]) (nQ none (fun q => q = b ∨ z ≤ q) (fun H => H.size = z ∧ OBJ D (b) 5 [.int (iI (x)), .int (iI (u)), .int (iI (v)), .int (iI 0), .int (iI 0)] H)) 0 0 (fun q => q = b ∨ z ≤ q) := by
  refine n_start (by decide) rfl (Nat.le_of_ble_eq_true rfl) ?_
  intro p e s m below meth c hx hb hr hlocks hml hts hown hname hpre hK hE ls hl
  have hinX5 : ∀ w ∈ wsX50, w ∈ wsX5_init := by decide +kernel
  have hl : lv_has ls 4 [(0, .ref (b)), (1, .int (iI (x))), (2, .int (iI (u))), (3, .int (iI (v)))] := hl
  have hS : va_S (fun q => q = b ∨ z ≤ q) s.heap s.heap [] := va_S.rf
  obtain ⟨hz, hbz, hc0⟩ := hpre
  refine lv_aload_n hx hb dX5_init_0 rfl (lv_at hl 0 rfl) ?_
  refine W.objInit hx hb hown (hts (.methodLink RX5 1 objectInit) (by decide +kernel)) (hts (.instanceMethod objectInit) (by decide +kernel)) (hts (.code objectInit ⟨#[0xb1]⟩ 1 none) (by decide +kernel)) rfl (by rw [hml]; exact hl.1) rfl dX5_init_1 (Nat.le_of_ble_eq_true rfl) (Nat.le_of_ble_eq_true rfl) ?_
  refine W.eq (g2 := F0 m 4 ls []) rfl ?_
  refine lv_aload_n hx hb dX5_init_4 rfl (lv_at hl 0 rfl) ?_
  refine lv_iload_n hx hb dX5_init_5 rfl (lv_at hl 1 rfl) ?_
  refine y_putF (C := RX5) (T := TX5) (N := 5) (ref := "CoreShed$Place") (ci := 5) (v := .int (iI (x))) (ty := .int) hx hb hts hinX5 tyX5 tyX5_ok nmX5 hown hK hS hc0 (Or.inl rfl) rfl 0 (by decide) (hts _ (by decide +kernel)) rfl rfl hname rfl (by decide +kernel) rfl rfl (Nat.le_of_ble_eq_true rfl) dX5_init_6 (fun H locs hO hz1 hoq hS => ?_)
  have hc0 : OBJ D (b) 5 [.int (iI (x)), .int (iI 0), .int (iI 0), .int (iI 0), .int (iI 0)] H := hO
  have hz : H.size = z := by omega
  refine lv_aload_n hx hb dX5_init_9 rfl (lv_at hl 0 rfl) ?_
  refine lv_iload_n hx hb dX5_init_10 rfl (lv_at hl 2 rfl) ?_
  refine y_putF (C := RX5) (T := TX5) (N := 5) (ref := "CoreShed$Place") (ci := 5) (v := .int (iI (u))) (ty := .int) hx hb hts hinX5 tyX5 tyX5_ok nmX5 hown hK hS hc0 (Or.inl rfl) rfl 1 (by decide) (hts _ (by decide +kernel)) rfl rfl hname rfl (by decide +kernel) rfl rfl (Nat.le_of_ble_eq_true rfl) dX5_init_11 (fun H locs hO hz1 hoq hS => ?_)
  have hc0 : OBJ D (b) 5 [.int (iI (x)), .int (iI (u)), .int (iI 0), .int (iI 0), .int (iI 0)] H := hO
  have hz : H.size = z := by omega
  refine lv_aload_n hx hb dX5_init_14 rfl (lv_at hl 0 rfl) ?_
  refine lv_iload_n hx hb dX5_init_15 rfl (lv_at hl 3 rfl) ?_
  refine y_putF (C := RX5) (T := TX5) (N := 5) (ref := "CoreShed$Place") (ci := 5) (v := .int (iI (v))) (ty := .int) hx hb hts hinX5 tyX5 tyX5_ok nmX5 hown hK hS hc0 (Or.inl rfl) rfl 2 (by decide) (hts _ (by decide +kernel)) rfl rfl hname rfl (by decide +kernel) rfl rfl (Nat.le_of_ble_eq_true rfl) dX5_init_16 (fun H locs hO hz1 hoq hS => ?_)
  have hc0 : OBJ D (b) 5 [.int (iI (x)), .int (iI (u)), .int (iI (v)), .int (iI 0), .int (iI 0)] H := hO
  have hz : H.size = z := by omega
  exact n_vret hx hb hr hlocks ⟨hz, hc0⟩ hS (Nat.le_of_ble_eq_true rfl) (Nat.le_of_ble_eq_true rfl) dX5_init_19
set_option maxHeartbeats 4000000 in
set_option maxRecDepth 100000 in
theorem c0_init (l : Launch) (D : va_G) (cT : Nat → ClassId) (b z : Nat) : Met l yX0_init wsX0_init { frames := 1, cells := 1, slots := 16, locals := 20 } (nPc D (cTy cT) EW (fun H => H.size = z ∧ b < z ∧ OBJ D (b) 0 [.null, .int (iI 0)] H) [.ref b]) (nQ none (fun q => q = b ∨ z ≤ q) (fun H => H.size = z + 1 ∧ OBJ D (b) 0 [.ref (z), .int (iI 0)] H ∧ RAR D (z) (cT 5) 16 (fun _ => none) H)) 1 16 (fun q => q = b ∨ z ≤ q) := by
  refine n_start (by decide) rfl (Nat.le_of_ble_eq_true rfl) ?_
  intro p e s m below meth c hx hb hr hlocks hml hts hown hname hpre hK hE ls hl
  have hinX0 : ∀ w ∈ wsX00, w ∈ wsX0_init := by decide +kernel
  have hl : lv_has ls 1 [(0, .ref (b))] := hl
  have hS : va_S (fun q => q = b ∨ z ≤ q) s.heap s.heap [] := va_S.rf
  obtain ⟨hz, hbz, hc0⟩ := hpre
  refine lv_aload_n hx hb dX0_init_0 rfl (lv_at hl 0 rfl) ?_
  refine W.objInit hx hb hown (hts (.methodLink RX0 3 objectInit) (by decide +kernel)) (hts (.instanceMethod objectInit) (by decide +kernel)) (hts (.code objectInit ⟨#[0xb1]⟩ 1 none) (by decide +kernel)) rfl (by rw [hml]; exact hl.1) rfl dX0_init_1 (Nat.le_of_ble_eq_true rfl) (Nat.le_of_ble_eq_true rfl) ?_
  refine W.eq (g2 := F0 m 4 ls []) rfl ?_
  refine lv_aload_n hx hb dX0_init_4 rfl (lv_at hl 0 rfl) ?_
  refine z_bipush hx hb dX0_init_5 (by decide) ?_
  refine y_anew (C := "CoreShed$Place") (cA := cT 5) (a := z) (n := 16) (N := 16) hx hb hown (hts (.classLink RX0 9 RX5) (by decide +kernel)) hE.2.2.2.2.1 hK 5 rfl hS rfl (by decide) (Nat.le_of_ble_eq_true rfl) (Nat.le_of_ble_eq_true rfl) hz dX0_init_7 (fun H hc1 hz1 hold hS => ?_)
  have hc0 := one_kept hc0 (hold (b) (by omega))
  have hz : H.size = z + 1 := by omega
  refine y_putF (C := RX0) (T := TX0) (N := 2) (ref := "CoreShed$Batch") (ci := 0) (v := .ref (z)) (ty := .array (.object "CoreShed$Place")) hx hb hts hinX0 tyX0 tyX0_ok nmX0 hown hK hS hc0 (Or.inl rfl) rfl 0 (by decide) (hts _ (by decide +kernel)) rfl rfl hname rfl (by decide +kernel) rfl rfl (Nat.le_of_ble_eq_true rfl) dX0_init_10 (fun H locs hO hz1 hoq hS => ?_)
  have hc1 := one_kept hc1 (hoq (z) (by omega))
  have hc0 : OBJ D (b) 0 [.ref (z), .int (iI 0)] H := hO
  have hz : H.size = z + 1 := by omega
  exact n_vret hx hb hr hlocks ⟨hz, hc0, hc1⟩ hS (Nat.le_of_ble_eq_true rfl) (Nat.le_of_ble_eq_true rfl) dX0_init_13
set_option maxHeartbeats 4000000 in
set_option maxRecDepth 100000 in
theorem c4_init (l : Launch) (D : va_G) (cT : Nat → ClassId) (b z : Nat) : Met l yX4_init wsX4_init { frames := 1, cells := 2, slots := 40, locals := 20 } (nPc D (cTy cT) EW (fun H => H.size = z ∧ b < z ∧ OBJ D (b) 4 [.null, .null] H) [.ref b]) (nQ none (fun q => q = b ∨ z ≤ q) (fun H => H.size = z + 2 ∧ OBJ D (b) 4 [.ref (z), .ref (z + 1)] H ∧ IAR D (z) (cT 0) 20 (fun _ => 0) H ∧ IAR D (z + 1) (cT 1) 20 (fun _ => 0) H)) 2 40 (fun q => q = b ∨ z ≤ q) := by
  refine n_start (by decide) rfl (Nat.le_of_ble_eq_true rfl) ?_
  intro p e s m below meth c hx hb hr hlocks hml hts hown hname hpre hK hE ls hl
  have hinX4 : ∀ w ∈ wsX40, w ∈ wsX4_init := by decide +kernel
  have hl : lv_has ls 1 [(0, .ref (b))] := hl
  have hS : va_S (fun q => q = b ∨ z ≤ q) s.heap s.heap [] := va_S.rf
  obtain ⟨hz, hbz, hc0⟩ := hpre
  refine lv_aload_n hx hb dX4_init_0 rfl (lv_at hl 0 rfl) ?_
  refine W.objInit hx hb hown (hts (.methodLink RX4 3 objectInit) (by decide +kernel)) (hts (.instanceMethod objectInit) (by decide +kernel)) (hts (.code objectInit ⟨#[0xb1]⟩ 1 none) (by decide +kernel)) rfl (by rw [hml]; exact hl.1) rfl dX4_init_1 (Nat.le_of_ble_eq_true rfl) (Nat.le_of_ble_eq_true rfl) ?_
  refine W.eq (g2 := F0 m 4 ls []) rfl ?_
  refine lv_aload_n hx hb dX4_init_4 rfl (lv_at hl 0 rfl) ?_
  refine z_bipush hx hb dX4_init_5 (by decide) ?_
  refine y_newa (atype := .int) (ty := .int) (cA := cT 0) (a := z) (n := 20) (N := 20) hx hb rfl (Or.inl rfl) (hts (.arrayClass .int) (by decide +kernel)) hK 0 rfl hS rfl (by decide) (Nat.le_of_ble_eq_true rfl) (Nat.le_of_ble_eq_true rfl) hz dX4_init_7 (fun H hc1 hz1 hold hS => ?_)
  have hc0 := one_kept hc0 (hold (b) (by omega))
  have hz : H.size = z + 1 := by omega
  refine y_putF (C := RX4) (T := TX4) (N := 2) (ref := "CoreShed$Mend") (ci := 4) (v := .ref (z)) (ty := .array .int) hx hb hts hinX4 tyX4 tyX4_ok nmX4 hown hK hS hc0 (Or.inl rfl) rfl 0 (by decide) (hts _ (by decide +kernel)) rfl rfl hname rfl (by decide +kernel) rfl rfl (Nat.le_of_ble_eq_true rfl) dX4_init_9 (fun H locs hO hz1 hoq hS => ?_)
  have hc1 := one_kept hc1 (hoq (z) (by omega))
  have hc0 : OBJ D (b) 4 [.ref (z), .null] H := hO
  have hz : H.size = z + 1 := by omega
  refine lv_aload_n hx hb dX4_init_12 rfl (lv_at hl 0 rfl) ?_
  refine z_bipush hx hb dX4_init_13 (by decide) ?_
  refine y_newa (atype := .boolean) (ty := .boolean) (cA := cT 1) (a := z + 1) (n := 20) (N := 20) hx hb rfl (Or.inr rfl) (hts (.arrayClass .boolean) (by decide +kernel)) hK 1 rfl hS rfl (by decide) (Nat.le_of_ble_eq_true rfl) (Nat.le_of_ble_eq_true rfl) hz dX4_init_15 (fun H hc2 hz1 hold hS => ?_)
  have hc0 := one_kept hc0 (hold (b) (by omega))
  have hc1 := one_kept hc1 (hold (z) (by omega))
  have hz : H.size = z + 2 := by omega
  refine y_putF (C := RX4) (T := TX4) (N := 2) (ref := "CoreShed$Mend") (ci := 4) (v := .ref (z + 1)) (ty := .array .boolean) hx hb hts hinX4 tyX4 tyX4_ok nmX4 hown hK hS hc0 (Or.inl rfl) rfl 1 (by decide) (hts _ (by decide +kernel)) rfl rfl hname rfl (by decide +kernel) rfl rfl (Nat.le_of_ble_eq_true rfl) dX4_init_17 (fun H locs hO hz1 hoq hS => ?_)
  have hc1 := one_kept hc1 (hoq (z) (by omega))
  have hc2 := one_kept hc2 (hoq (z + 1) (by omega))
  have hc0 : OBJ D (b) 4 [.ref (z), .ref (z + 1)] H := hO
  have hz : H.size = z + 2 := by omega
  exact n_vret hx hb hr hlocks ⟨hz, hc0, hc1, hc2⟩ hS (Nat.le_of_ble_eq_true rfl) (Nat.le_of_ble_eq_true rfl) dX4_init_20
set_option maxHeartbeats 4000000 in
set_option maxRecDepth 100000 in
theorem c3_init (l : Launch) (D : va_G) (cT : Nat → ClassId) (b z : Nat) : Met l yX3_init wsX3_init { frames := 1, cells := 22, slots := 462, locals := 20 } (nPc D (cTy cT) EW (fun H => H.size = z ∧ b < z ∧ OBJ D (b) 3 [.null] H) [.ref b]) (nQ none (fun q => q = b ∨ z ≤ q) (fun H => H.size = z + 22 ∧ OBJ D (b) 3 [.ref (z)] H ∧ RAR D (z) (cT 6) 21 (fun i => some (z + 1 + i)) H ∧ (∀ i : Nat, i < 21 → IAR D (z + 1 + i) (cT 0) 21 (fun _ => 0) H))) 22 462 (fun q => q = b ∨ z ≤ q) := by
  refine n_start (by decide) rfl (Nat.le_of_ble_eq_true rfl) ?_
  intro p e s m below meth c hx hb hr hlocks hml hts hown hname hpre hK hE ls hl
  have hinX3 : ∀ w ∈ wsX30, w ∈ wsX3_init := by decide +kernel
  have hl : lv_has ls 1 [(0, .ref (b))] := hl
  have hS : va_S (fun q => q = b ∨ z ≤ q) s.heap s.heap [] := va_S.rf
  obtain ⟨hz, hbz, hc0⟩ := hpre
  refine lv_aload_n hx hb dX3_init_0 rfl (lv_at hl 0 rfl) ?_
  refine W.objInit hx hb hown (hts (.methodLink RX3 3 objectInit) (by decide +kernel)) (hts (.instanceMethod objectInit) (by decide +kernel)) (hts (.code objectInit ⟨#[0xb1]⟩ 1 none) (by decide +kernel)) rfl (by rw [hml]; exact hl.1) rfl dX3_init_1 (Nat.le_of_ble_eq_true rfl) (Nat.le_of_ble_eq_true rfl) ?_
  refine W.eq (g2 := F0 m 4 ls []) rfl ?_
  refine lv_aload_n hx hb dX3_init_4 rfl (lv_at hl 0 rfl) ?_
  refine z_bipush hx hb dX3_init_5 (by decide) ?_
  refine z_bipush hx hb dX3_init_7 (by decide) ?_
  refine y_mna (cy := cT 0) (cA := cT 6) (a := z) hx hb hown (hts (.classLink RX3 9 "[[I") (by decide +kernel)) hE.2.2.2.2.2 (hts (.arrayClass .int) (by decide +kernel)) hK 0 6 rfl rfl hS (Nat.le_of_ble_eq_true rfl) (Nat.le_of_ble_eq_true rfl) hz dX3_init_9 (fun H hc1 hc2 hz1 hold hS => ?_)
  have hc0 := one_kept hc0 (hold (b) (by omega))
  have hz : H.size = z + 22 := by omega
  refine y_putF (C := RX3) (T := TX3) (N := 1) (ref := "CoreShed$Matching") (ci := 3) (v := .ref (z)) (ty := .array (.array .int)) hx hb hts hinX3 tyX3 tyX3_ok nmX3 hown hK hS hc0 (Or.inl rfl) rfl 0 (by decide) (hts _ (by decide +kernel)) rfl rfl hname rfl (by decide +kernel) rfl rfl (Nat.le_of_ble_eq_true rfl) dX3_init_13 (fun H locs hO hz1 hoq hS => ?_)
  have hc1 := one_kept hc1 (hoq (z) (by omega))
  have hc2 := fun (i : Nat) (hi : i < 21) => one_kept (hc2 i hi) (hoq (z + 1 + i) (by omega))
  have hc0 : OBJ D (b) 3 [.ref (z)] H := hO
  have hz : H.size = z + 22 := by omega
  exact n_vret hx hb hr hlocks ⟨hz, hc0, hc1, hc2⟩ hS (Nat.le_of_ble_eq_true rfl) (Nat.le_of_ble_eq_true rfl) dX3_init_16
set_option maxHeartbeats 4000000 in
set_option maxRecDepth 100000 in
theorem c7_init (l : Launch) (D : va_G) (cT : Nat → ClassId) (b z : Nat) : Met l yX7_init wsX7_init { frames := 2, cells := 30, slots := 555, locals := 40 } (nPc D (cTy cT) EW (fun H => H.size = z ∧ b < z ∧ OBJ D (b) 7 [.null, .null, .null, .null, .null, .null, .int (iI 0), .int (iI 0), .int (iI 0), .int (iI 0), .int (iI 0)] H) [.ref b]) (nQ none (fun q => q = b ∨ z ≤ q) (fun H => H.size = z + 30 ∧ OBJ D (b) 7 [.ref (z), .ref (z + 1), .ref (z + 2), .ref (z + 3), .ref (z + 4), .ref (z + 7), .int (iI 0), .int (iI 0), .int (iI 0), .int (iI (5)), .int (iI (100))] H ∧ RAR D (z) (cT 2) 4 (fun _ => none) H ∧ RAR D (z + 1) (cT 3) 30 (fun _ => none) H ∧ RAR D (z + 2) (cT 4) 6 (fun _ => none) H ∧ IAR D (z + 3) (cT 0) 10 (fun i => (i : Int)) H ∧ OBJ D (z + 4) 4 [.ref (z + 5), .ref (z + 6)] H ∧ IAR D (z + 5) (cT 0) 20 (fun _ => 0) H ∧ IAR D (z + 6) (cT 1) 20 (fun _ => 0) H ∧ OBJ D (z + 7) 3 [.ref (z + 8)] H ∧ RAR D (z + 8) (cT 6) 21 (fun i => some (z + 8 + 1 + i)) H ∧ (∀ i : Nat, i < 21 → IAR D (z + 8 + 1 + i) (cT 0) 21 (fun _ => 0) H))) 30 555 (fun q => q = b ∨ z ≤ q) := by
  refine n_start (by decide) rfl (Nat.le_of_ble_eq_true rfl) ?_
  intro p e s m below meth c hx hb hr hlocks hml hts hown hname hpre hK hE ls hl
  have hinX3 : ∀ w ∈ wsX30, w ∈ wsX7_init := by decide +kernel
  have hinX4 : ∀ w ∈ wsX40, w ∈ wsX7_init := by decide +kernel
  have hinX7 : ∀ w ∈ wsX70, w ∈ wsX7_init := by decide +kernel
  have hl : lv_has ls 2 [(0, .ref (b))] := hl
  have hS : va_S (fun q => q = b ∨ z ≤ q) s.heap s.heap [] := va_S.rf
  obtain ⟨hz, hbz, hc0⟩ := hpre
  refine lv_aload_n hx hb dX7_init_0 rfl (lv_at hl 0 rfl) ?_
  refine W.objInit hx hb hown (hts (.methodLink RX7 1 objectInit) (by decide +kernel)) (hts (.instanceMethod objectInit) (by decide +kernel)) (hts (.code objectInit ⟨#[0xb1]⟩ 1 none) (by decide +kernel)) rfl (by rw [hml]; exact hl.1) rfl dX7_init_1 (Nat.le_of_ble_eq_true rfl) (Nat.le_of_ble_eq_true rfl) ?_
  refine W.eq (g2 := F0 m 4 ls []) rfl ?_
  refine lv_aload_n hx hb dX7_init_4 rfl (lv_at hl 0 rfl) ?_
  refine z_iconst hx hb dX7_init_5 ?_
  refine y_anew (C := "CoreShed$Hole") (cA := cT 2) (a := z) (n := 4) (N := 4) hx hb hown (hts (.classLink RX7 9 RX1) (by decide +kernel)) hE.2.1 hK 2 rfl hS rfl (by decide) (Nat.le_of_ble_eq_true rfl) (Nat.le_of_ble_eq_true rfl) hz dX7_init_6 (fun H hc1 hz1 hold hS => ?_)
  have hc0 := one_kept hc0 (hold (b) (by omega))
  have hz : H.size = z + 1 := by omega
  refine y_putF (C := RX7) (T := TX7) (N := 11) (ref := "CoreShed") (ci := 7) (v := .ref (z)) (ty := .array (.object "CoreShed$Hole")) hx hb hts hinX7 tyX7 tyX7_ok nmX7 hown hK hS hc0 (Or.inl rfl) rfl 0 (by decide) (hts _ (by decide +kernel)) rfl rfl hname rfl (by decide +kernel) rfl rfl (Nat.le_of_ble_eq_true rfl) dX7_init_9 (fun H locs hO hz1 hoq hS => ?_)
  have hc1 := one_kept hc1 (hoq (z) (by omega))
  have hc0 : OBJ D (b) 7 [.ref (z), .null, .null, .null, .null, .null, .int (iI 0), .int (iI 0), .int (iI 0), .int (iI 0), .int (iI 0)] H := hO
  have hz : H.size = z + 1 := by omega
  refine lv_aload_n hx hb dX7_init_12 rfl (lv_at hl 0 rfl) ?_
  refine z_bipush hx hb dX7_init_13 (by decide) ?_
  refine y_anew (C := "CoreShed$Sample") (cA := cT 3) (a := z + 1) (n := 30) (N := 30) hx hb hown (hts (.classLink RX7 15 RX6) (by decide +kernel)) hE.2.2.1 hK 3 rfl hS rfl (by decide) (Nat.le_of_ble_eq_true rfl) (Nat.le_of_ble_eq_true rfl) hz dX7_init_15 (fun H hc2 hz1 hold hS => ?_)
  have hc0 := one_kept hc0 (hold (b) (by omega))
  have hc1 := one_kept hc1 (hold (z) (by omega))
  have hz : H.size = z + 2 := by omega
  refine y_putF (C := RX7) (T := TX7) (N := 11) (ref := "CoreShed") (ci := 7) (v := .ref (z + 1)) (ty := .array (.object "CoreShed$Sample")) hx hb hts hinX7 tyX7 tyX7_ok nmX7 hown hK hS hc0 (Or.inl rfl) rfl 1 (by decide) (hts _ (by decide +kernel)) rfl rfl hname rfl (by decide +kernel) rfl rfl (Nat.le_of_ble_eq_true rfl) dX7_init_18 (fun H locs hO hz1 hoq hS => ?_)
  have hc1 := one_kept hc1 (hoq (z) (by omega))
  have hc2 := one_kept hc2 (hoq (z + 1) (by omega))
  have hc0 : OBJ D (b) 7 [.ref (z), .ref (z + 1), .null, .null, .null, .null, .int (iI 0), .int (iI 0), .int (iI 0), .int (iI 0), .int (iI 0)] H := hO
  have hz : H.size = z + 2 := by omega
  refine lv_aload_n hx hb dX7_init_21 rfl (lv_at hl 0 rfl) ?_
  refine z_bipush hx hb dX7_init_22 (by decide) ?_
  refine y_anew (C := "CoreShed$Batch") (cA := cT 4) (a := z + 2) (n := 6) (N := 6) hx hb hown (hts (.classLink RX7 21 RX0) (by decide +kernel)) hE.2.2.2.1 hK 4 rfl hS rfl (by decide) (Nat.le_of_ble_eq_true rfl) (Nat.le_of_ble_eq_true rfl) hz dX7_init_24 (fun H hc3 hz1 hold hS => ?_)
  have hc0 := one_kept hc0 (hold (b) (by omega))
  have hc1 := one_kept hc1 (hold (z) (by omega))
  have hc2 := one_kept hc2 (hold (z + 1) (by omega))
  have hz : H.size = z + 3 := by omega
  refine y_putF (C := RX7) (T := TX7) (N := 11) (ref := "CoreShed") (ci := 7) (v := .ref (z + 2)) (ty := .array (.object "CoreShed$Batch")) hx hb hts hinX7 tyX7 tyX7_ok nmX7 hown hK hS hc0 (Or.inl rfl) rfl 2 (by decide) (hts _ (by decide +kernel)) rfl rfl hname rfl (by decide +kernel) rfl rfl (Nat.le_of_ble_eq_true rfl) dX7_init_27 (fun H locs hO hz1 hoq hS => ?_)
  have hc1 := one_kept hc1 (hoq (z) (by omega))
  have hc2 := one_kept hc2 (hoq (z + 1) (by omega))
  have hc3 := one_kept hc3 (hoq (z + 2) (by omega))
  have hc0 : OBJ D (b) 7 [.ref (z), .ref (z + 1), .ref (z + 2), .null, .null, .null, .int (iI 0), .int (iI 0), .int (iI 0), .int (iI 0), .int (iI 0)] H := hO
  have hz : H.size = z + 3 := by omega
  refine lv_aload_n hx hb dX7_init_30 rfl (lv_at hl 0 rfl) ?_
  refine z_bipush hx hb dX7_init_31 (by decide) ?_
  refine y_newa (atype := .int) (ty := .int) (cA := cT 0) (a := z + 3) (n := 10) (N := 10) hx hb rfl (Or.inl rfl) (hts (.arrayClass .int) (by decide +kernel)) hK 0 rfl hS rfl (by decide) (Nat.le_of_ble_eq_true rfl) (Nat.le_of_ble_eq_true rfl) hz dX7_init_33 (fun H hc4 hz1 hold hS => ?_)
  have hc0 := one_kept hc0 (hold (b) (by omega))
  have hc1 := one_kept hc1 (hold (z) (by omega))
  have hc2 := one_kept hc2 (hold (z + 1) (by omega))
  have hc3 := one_kept hc3 (hold (z + 2) (by omega))
  have hz : H.size = z + 4 := by omega
  refine y_putF (C := RX7) (T := TX7) (N := 11) (ref := "CoreShed") (ci := 7) (v := .ref (z + 3)) (ty := .array .int) hx hb hts hinX7 tyX7 tyX7_ok nmX7 hown hK hS hc0 (Or.inl rfl) rfl 3 (by decide) (hts _ (by decide +kernel)) rfl rfl hname rfl (by decide +kernel) rfl rfl (Nat.le_of_ble_eq_true rfl) dX7_init_35 (fun H locs hO hz1 hoq hS => ?_)
  have hc1 := one_kept hc1 (hoq (z) (by omega))
  have hc2 := one_kept hc2 (hoq (z + 1) (by omega))
  have hc3 := one_kept hc3 (hoq (z + 2) (by omega))
  have hc4 := one_kept hc4 (hoq (z + 3) (by omega))
  have hc0 : OBJ D (b) 7 [.ref (z), .ref (z + 1), .ref (z + 2), .ref (z + 3), .null, .null, .int (iI 0), .int (iI 0), .int (iI 0), .int (iI 0), .int (iI 0)] H := hO
  have hz : H.size = z + 4 := by omega
  refine lv_aload_n hx hb dX7_init_38 rfl (lv_at hl 0 rfl) ?_
  refine y_new (a := z + 4) (C := RX4) (T := TX4) (N := 2) (ci := 4) (fs := [.null, .null]) hx hb hts hinX4 tyX4 tyX4_ok hown (hts (.classLink RX7 31 RX4) (by decide +kernel)) (hts (.instantiable RX4 2) (by decide +kernel)) (hts (.initialized RX4) (by decide +kernel)) hK hS rfl (fun j hj => by rcases (show j = 0 ∨ j = 1 by omega) with rfl | rfl <;> rfl) (Nat.le_of_ble_eq_true rfl) (Nat.le_of_ble_eq_true rfl) hz dX7_init_39 (fun H hc5 hz1 hold hS => ?_)
  have hc0 := one_kept hc0 (hold (b) (by omega))
  have hc1 := one_kept hc1 (hold (z) (by omega))
  have hc2 := one_kept hc2 (hold (z + 1) (by omega))
  have hc3 := one_kept hc3 (hold (z + 2) (by omega))
  have hc4 := one_kept hc4 (hold (z + 3) (by omega))
  have hz : H.size = z + 5 := by omega
  refine lv_dup hx hb dX7_init_42 rfl ?_
  refine n_callIN (n := 0) (b := z + 4) (As := []) (rest := [.ref (z + 4), .ref (b)]) hx hb hml hts hown EW_mv hK hE (show H.size = z + 5 ∧ (z + 4) < z + 5 ∧ OBJ D (z + 4) 4 [.null, .null] H from ⟨hz, by omega, hc5⟩) hS (fun q (h : q = z + 4 ∨ z + 5 ≤ q) => (show q = b ∨ z ≤ q from Or.inr (by omega))) (c4_init l D cT (z + 4) (z + 5)) gX7_init_X4_init_n33 rfl rfl rfl (hts (.initialized RX4) (by decide +kernel)) hE.1.2.1 (hts (.instanceMethod yX4_init) (by decide +kernel)) rfl (by decide +kernel) ⟨by decide, by decide⟩ rfl hl.1 rfl (Nat.le_of_ble_eq_true rfl) ⟨(Nat.le_of_ble_eq_true rfl), (Nat.le_of_ble_eq_true rfl)⟩ dX7_init_43 (fun H locs hp hzz hk hS => ?_)
  obtain ⟨hz, hc6, hc7, hc8⟩ := hp
  have hc0 := one_kept hc0 (hk (b) (by omega) (fun (h : b = z + 4 ∨ z + 5 ≤ b) => by omega))
  have hc1 := one_kept hc1 (hk (z) (by omega) (fun (h : z = z + 4 ∨ z + 5 ≤ z) => by omega))
  have hc2 := one_kept hc2 (hk (z + 1) (by omega) (fun (h : z + 1 = z + 4 ∨ z + 5 ≤ z + 1) => by omega))
  have hc3 := one_kept hc3 (hk (z + 2) (by omega) (fun (h : z + 2 = z + 4 ∨ z + 5 ≤ z + 2) => by omega))
  have hc4 := one_kept hc4 (hk (z + 3) (by omega) (fun (h : z + 3 = z + 4 ∨ z + 5 ≤ z + 3) => by omega))
  have hc6 : OBJ D (z + 4) 4 [.ref (z + 5), .ref (z + 6)] H := hc6
  have hc7 : IAR D (z + 5) (cT 0) 20 (fun _ => 0) H := hc7
  have hc8 : IAR D (z + 6) (cT 1) 20 (fun _ => 0) H := hc8
  have hz : H.size = z + 7 := by omega
  refine y_putF (C := RX7) (T := TX7) (N := 11) (ref := "CoreShed") (ci := 7) (v := .ref (z + 4)) (ty := .object "CoreShed$Mend") hx hb hts hinX7 tyX7 tyX7_ok nmX7 hown hK hS hc0 (Or.inl rfl) rfl 4 (by decide) (hts _ (by decide +kernel)) rfl rfl hname rfl (by decide +kernel) rfl rfl (Nat.le_of_ble_eq_true rfl) dX7_init_46 (fun H locs hO hz1 hoq hS => ?_)
  have hc1 := one_kept hc1 (hoq (z) (by omega))
  have hc2 := one_kept hc2 (hoq (z + 1) (by omega))
  have hc3 := one_kept hc3 (hoq (z + 2) (by omega))
  have hc4 := one_kept hc4 (hoq (z + 3) (by omega))
  have hc6 := one_kept hc6 (hoq (z + 4) (by omega))
  have hc7 := one_kept hc7 (hoq (z + 5) (by omega))
  have hc8 := one_kept hc8 (hoq (z + 6) (by omega))
  have hc0 : OBJ D (b) 7 [.ref (z), .ref (z + 1), .ref (z + 2), .ref (z + 3), .ref (z + 4), .null, .int (iI 0), .int (iI 0), .int (iI 0), .int (iI 0), .int (iI 0)] H := hO
  have hz : H.size = z + 7 := by omega
  refine lv_aload_n hx hb dX7_init_49 rfl (lv_at hl 0 rfl) ?_
  refine y_new (a := z + 7) (C := RX3) (T := TX3) (N := 1) (ci := 3) (fs := [.null]) hx hb hts hinX3 tyX3 tyX3_ok hown (hts (.classLink RX7 38 RX3) (by decide +kernel)) (hts (.instantiable RX3 1) (by decide +kernel)) (hts (.initialized RX3) (by decide +kernel)) hK hS rfl (fun j hj => by rcases (show j = 0 by omega) with rfl <;> rfl) (Nat.le_of_ble_eq_true rfl) (Nat.le_of_ble_eq_true rfl) hz dX7_init_50 (fun H hc9 hz1 hold hS => ?_)
  have hc0 := one_kept hc0 (hold (b) (by omega))
  have hc1 := one_kept hc1 (hold (z) (by omega))
  have hc2 := one_kept hc2 (hold (z + 1) (by omega))
  have hc3 := one_kept hc3 (hold (z + 2) (by omega))
  have hc4 := one_kept hc4 (hold (z + 3) (by omega))
  have hc6 := one_kept hc6 (hold (z + 4) (by omega))
  have hc7 := one_kept hc7 (hold (z + 5) (by omega))
  have hc8 := one_kept hc8 (hold (z + 6) (by omega))
  have hz : H.size = z + 8 := by omega
  refine lv_dup hx hb dX7_init_53 rfl ?_
  refine n_callIN (n := 0) (b := z + 7) (As := []) (rest := [.ref (z + 7), .ref (b)]) hx hb hml hts hown EW_mv hK hE (show H.size = z + 8 ∧ (z + 7) < z + 8 ∧ OBJ D (z + 7) 3 [.null] H from ⟨hz, by omega, hc9⟩) hS (fun q (h : q = z + 7 ∨ z + 8 ≤ q) => (show q = b ∨ z ≤ q from Or.inr (by omega))) (c3_init l D cT (z + 7) (z + 8)) gX7_init_X3_init_n40 rfl rfl rfl (hts (.initialized RX3) (by decide +kernel)) hE.1.2.2.1 (hts (.instanceMethod yX3_init) (by decide +kernel)) rfl (by decide +kernel) ⟨by decide, by decide⟩ rfl hl.1 rfl (Nat.le_of_ble_eq_true rfl) ⟨(Nat.le_of_ble_eq_true rfl), (Nat.le_of_ble_eq_true rfl)⟩ dX7_init_54 (fun H locs hp hzz hk hS => ?_)
  obtain ⟨hz, hc10, hc11, hc12⟩ := hp
  have hc0 := one_kept hc0 (hk (b) (by omega) (fun (h : b = z + 7 ∨ z + 8 ≤ b) => by omega))
  have hc1 := one_kept hc1 (hk (z) (by omega) (fun (h : z = z + 7 ∨ z + 8 ≤ z) => by omega))
  have hc2 := one_kept hc2 (hk (z + 1) (by omega) (fun (h : z + 1 = z + 7 ∨ z + 8 ≤ z + 1) => by omega))
  have hc3 := one_kept hc3 (hk (z + 2) (by omega) (fun (h : z + 2 = z + 7 ∨ z + 8 ≤ z + 2) => by omega))
  have hc4 := one_kept hc4 (hk (z + 3) (by omega) (fun (h : z + 3 = z + 7 ∨ z + 8 ≤ z + 3) => by omega))
  have hc6 := one_kept hc6 (hk (z + 4) (by omega) (fun (h : z + 4 = z + 7 ∨ z + 8 ≤ z + 4) => by omega))
  have hc7 := one_kept hc7 (hk (z + 5) (by omega) (fun (h : z + 5 = z + 7 ∨ z + 8 ≤ z + 5) => by omega))
  have hc8 := one_kept hc8 (hk (z + 6) (by omega) (fun (h : z + 6 = z + 7 ∨ z + 8 ≤ z + 6) => by omega))
  have hc10 : OBJ D (z + 7) 3 [.ref (z + 8)] H := hc10
  have hc11 : RAR D (z + 8) (cT 6) 21 (fun i => some (z + 8 + 1 + i)) H := hc11
  have hc12 : ∀ i : Nat, i < 21 → IAR D (z + 8 + 1 + i) (cT 0) 21 (fun _ => 0) H := hc12
  have hz : H.size = z + 30 := by omega
  refine y_putF (C := RX7) (T := TX7) (N := 11) (ref := "CoreShed") (ci := 7) (v := .ref (z + 7)) (ty := .object "CoreShed$Matching") hx hb hts hinX7 tyX7 tyX7_ok nmX7 hown hK hS hc0 (Or.inl rfl) rfl 5 (by decide) (hts _ (by decide +kernel)) rfl rfl hname rfl (by decide +kernel) rfl rfl (Nat.le_of_ble_eq_true rfl) dX7_init_57 (fun H locs hO hz1 hoq hS => ?_)
  have hc1 := one_kept hc1 (hoq (z) (by omega))
  have hc2 := one_kept hc2 (hoq (z + 1) (by omega))
  have hc3 := one_kept hc3 (hoq (z + 2) (by omega))
  have hc4 := one_kept hc4 (hoq (z + 3) (by omega))
  have hc6 := one_kept hc6 (hoq (z + 4) (by omega))
  have hc7 := one_kept hc7 (hoq (z + 5) (by omega))
  have hc8 := one_kept hc8 (hoq (z + 6) (by omega))
  have hc10 := one_kept hc10 (hoq (z + 7) (by omega))
  have hc11 := one_kept hc11 (hoq (z + 8) (by omega))
  have hc12 := fun (i : Nat) (hi : i < 21) => one_kept (hc12 i hi) (hoq (z + 8 + 1 + i) (by omega))
  have hc0 : OBJ D (b) 7 [.ref (z), .ref (z + 1), .ref (z + 2), .ref (z + 3), .ref (z + 4), .ref (z + 7), .int (iI 0), .int (iI 0), .int (iI 0), .int (iI 0), .int (iI 0)] H := hO
  have hz : H.size = z + 30 := by omega
  refine lv_aload_n hx hb dX7_init_60 rfl (lv_at hl 0 rfl) ?_
  refine z_iconst hx hb dX7_init_61 ?_
  refine y_put (C := RX7) (T := TX7) (N := 11) (ref := "CoreShed") (ci := 7) (v := .int (iI (5))) (ty := .int) hx hb hts hinX7 tyX7 tyX7_ok nmX7 hown hK hS hc0 (Or.inl rfl) rfl 9 (by decide) (hts _ (by decide +kernel)) rfl rfl (by decide +kernel) rfl rfl (Nat.le_of_ble_eq_true rfl) dX7_init_62 (fun H locs hO hz1 hoq hS => ?_)
  have hc1 := one_kept hc1 (hoq (z) (by omega))
  have hc2 := one_kept hc2 (hoq (z + 1) (by omega))
  have hc3 := one_kept hc3 (hoq (z + 2) (by omega))
  have hc4 := one_kept hc4 (hoq (z + 3) (by omega))
  have hc6 := one_kept hc6 (hoq (z + 4) (by omega))
  have hc7 := one_kept hc7 (hoq (z + 5) (by omega))
  have hc8 := one_kept hc8 (hoq (z + 6) (by omega))
  have hc10 := one_kept hc10 (hoq (z + 7) (by omega))
  have hc11 := one_kept hc11 (hoq (z + 8) (by omega))
  have hc12 := fun (i : Nat) (hi : i < 21) => one_kept (hc12 i hi) (hoq (z + 8 + 1 + i) (by omega))
  have hc0 : OBJ D (b) 7 [.ref (z), .ref (z + 1), .ref (z + 2), .ref (z + 3), .ref (z + 4), .ref (z + 7), .int (iI 0), .int (iI 0), .int (iI 0), .int (iI (5)), .int (iI 0)] H := hO
  have hz : H.size = z + 30 := by omega
  refine lv_aload_n hx hb dX7_init_65 rfl (lv_at hl 0 rfl) ?_
  refine z_bipush hx hb dX7_init_66 (by decide) ?_
  refine y_put (C := RX7) (T := TX7) (N := 11) (ref := "CoreShed") (ci := 7) (v := .int (iI (100))) (ty := .int) hx hb hts hinX7 tyX7 tyX7_ok nmX7 hown hK hS hc0 (Or.inl rfl) rfl 10 (by decide) (hts _ (by decide +kernel)) rfl rfl (by decide +kernel) rfl rfl (Nat.le_of_ble_eq_true rfl) dX7_init_68 (fun H locs hO hz1 hoq hS => ?_)
  have hc1 := one_kept hc1 (hoq (z) (by omega))
  have hc2 := one_kept hc2 (hoq (z + 1) (by omega))
  have hc3 := one_kept hc3 (hoq (z + 2) (by omega))
  have hc4 := one_kept hc4 (hoq (z + 3) (by omega))
  have hc6 := one_kept hc6 (hoq (z + 4) (by omega))
  have hc7 := one_kept hc7 (hoq (z + 5) (by omega))
  have hc8 := one_kept hc8 (hoq (z + 6) (by omega))
  have hc10 := one_kept hc10 (hoq (z + 7) (by omega))
  have hc11 := one_kept hc11 (hoq (z + 8) (by omega))
  have hc12 := fun (i : Nat) (hi : i < 21) => one_kept (hc12 i hi) (hoq (z + 8 + 1 + i) (by omega))
  have hc0 : OBJ D (b) 7 [.ref (z), .ref (z + 1), .ref (z + 2), .ref (z + 3), .ref (z + 4), .ref (z + 7), .int (iI 0), .int (iI 0), .int (iI 0), .int (iI (5)), .int (iI (100))] H := hO
  have hz : H.size = z + 30 := by omega
  refine z_iconst hx hb dX7_init_71 ?_
  refine lv_istore_n (lv' := [(1, .int (iI (0))), (0, .ref (b))]) hx hb dX7_init_72 rfl hl (by decide) rfl (fun ls hl => ?_)
  refine lv_iload_n hx hb dX7_init_73 rfl (lv_at hl 0 rfl) ?_
  refine z_bipush hx hb dX7_init_74 (by decide) ?_
  refine z_icmp_ge (tgt := 92) hx hb (by omega) (by omega) dX7_init_76 (by decide) (fun c13 => ?_) (fun c13 => ?_)
  · exfalso; omega
  · refine lv_aload_n hx hb dX7_init_79 rfl (lv_at hl 1 rfl) ?_
    refine y_get (C := RX7) (T := TX7) (N := 11) (ref := "CoreShed") (ci := 7) hx hb hts hinX7 hown hK hc0 rfl 3 (by decide) (hts _ (by decide +kernel)) rfl (v := .ref (z + 3)) rfl dX7_init_80 ?_
    refine lv_iload_n hx hb dX7_init_83 rfl (lv_at hl 0 rfl) ?_
    refine lv_iload_n hx hb dX7_init_84 rfl (lv_at hl 0 rfl) ?_
    refine y_iast (j := 0) (v := 0) hx hb hK hS 0 hc4 (Or.inr (by omega)) rfl rfl (by decide) (by decide) dX7_init_85 (fun H locs hO hz1 hoq hS => ?_)
    have hc0 := one_kept hc0 (hoq (b) (by omega))
    have hc1 := one_kept hc1 (hoq (z) (by omega))
    have hc2 := one_kept hc2 (hoq (z + 1) (by omega))
    have hc3 := one_kept hc3 (hoq (z + 2) (by omega))
    have hc6 := one_kept hc6 (hoq (z + 4) (by omega))
    have hc7 := one_kept hc7 (hoq (z + 5) (by omega))
    have hc8 := one_kept hc8 (hoq (z + 6) (by omega))
    have hc10 := one_kept hc10 (hoq (z + 7) (by omega))
    have hc11 := one_kept hc11 (hoq (z + 8) (by omega))
    have hc12 := fun (i : Nat) (hi : i < 21) => one_kept (hc12 i hi) (hoq (z + 8 + 1 + i) (by omega))
    have hc4 : IAR D (z + 3) (cT 0) 10 (fu (fun _ => 0) 0 0) H := hO
    have hz : H.size = z + 30 := by omega
    refine z_iinc (k := 0) (lv' := [(1, .int (iI (1))), (0, .ref (b))]) hx hb dX7_init_86 hl rfl (by decide) rfl (fun ls hl => ?_)
    refine lv_goto (tgt := 73) hx hb dX7_init_89 (by decide) ?_
    refine lv_iload_n hx hb dX7_init_73 rfl (lv_at hl 0 rfl) ?_
    refine z_bipush hx hb dX7_init_74 (by decide) ?_
    refine z_icmp_ge (tgt := 92) hx hb (by omega) (by omega) dX7_init_76 (by decide) (fun c14 => ?_) (fun c14 => ?_)
    · exfalso; omega
    · refine lv_aload_n hx hb dX7_init_79 rfl (lv_at hl 1 rfl) ?_
      refine y_get (C := RX7) (T := TX7) (N := 11) (ref := "CoreShed") (ci := 7) hx hb hts hinX7 hown hK hc0 rfl 3 (by decide) (hts _ (by decide +kernel)) rfl (v := .ref (z + 3)) rfl dX7_init_80 ?_
      refine lv_iload_n hx hb dX7_init_83 rfl (lv_at hl 0 rfl) ?_
      refine lv_iload_n hx hb dX7_init_84 rfl (lv_at hl 0 rfl) ?_
      refine y_iast (j := 1) (v := 1) hx hb hK hS 0 hc4 (Or.inr (by omega)) rfl rfl (by decide) (by decide) dX7_init_85 (fun H locs hO hz1 hoq hS => ?_)
      have hc0 := one_kept hc0 (hoq (b) (by omega))
      have hc1 := one_kept hc1 (hoq (z) (by omega))
      have hc2 := one_kept hc2 (hoq (z + 1) (by omega))
      have hc3 := one_kept hc3 (hoq (z + 2) (by omega))
      have hc6 := one_kept hc6 (hoq (z + 4) (by omega))
      have hc7 := one_kept hc7 (hoq (z + 5) (by omega))
      have hc8 := one_kept hc8 (hoq (z + 6) (by omega))
      have hc10 := one_kept hc10 (hoq (z + 7) (by omega))
      have hc11 := one_kept hc11 (hoq (z + 8) (by omega))
      have hc12 := fun (i : Nat) (hi : i < 21) => one_kept (hc12 i hi) (hoq (z + 8 + 1 + i) (by omega))
      have hc4 : IAR D (z + 3) (cT 0) 10 (fu (fu (fun _ => 0) 0 0) 1 1) H := hO
      have hz : H.size = z + 30 := by omega
      refine z_iinc (k := 0) (lv' := [(1, .int (iI (2))), (0, .ref (b))]) hx hb dX7_init_86 hl rfl (by decide) rfl (fun ls hl => ?_)
      refine lv_goto (tgt := 73) hx hb dX7_init_89 (by decide) ?_
      refine lv_iload_n hx hb dX7_init_73 rfl (lv_at hl 0 rfl) ?_
      refine z_bipush hx hb dX7_init_74 (by decide) ?_
      refine z_icmp_ge (tgt := 92) hx hb (by omega) (by omega) dX7_init_76 (by decide) (fun c15 => ?_) (fun c15 => ?_)
      · exfalso; omega
      · refine lv_aload_n hx hb dX7_init_79 rfl (lv_at hl 1 rfl) ?_
        refine y_get (C := RX7) (T := TX7) (N := 11) (ref := "CoreShed") (ci := 7) hx hb hts hinX7 hown hK hc0 rfl 3 (by decide) (hts _ (by decide +kernel)) rfl (v := .ref (z + 3)) rfl dX7_init_80 ?_
        refine lv_iload_n hx hb dX7_init_83 rfl (lv_at hl 0 rfl) ?_
        refine lv_iload_n hx hb dX7_init_84 rfl (lv_at hl 0 rfl) ?_
        refine y_iast (j := 2) (v := 2) hx hb hK hS 0 hc4 (Or.inr (by omega)) rfl rfl (by decide) (by decide) dX7_init_85 (fun H locs hO hz1 hoq hS => ?_)
        have hc0 := one_kept hc0 (hoq (b) (by omega))
        have hc1 := one_kept hc1 (hoq (z) (by omega))
        have hc2 := one_kept hc2 (hoq (z + 1) (by omega))
        have hc3 := one_kept hc3 (hoq (z + 2) (by omega))
        have hc6 := one_kept hc6 (hoq (z + 4) (by omega))
        have hc7 := one_kept hc7 (hoq (z + 5) (by omega))
        have hc8 := one_kept hc8 (hoq (z + 6) (by omega))
        have hc10 := one_kept hc10 (hoq (z + 7) (by omega))
        have hc11 := one_kept hc11 (hoq (z + 8) (by omega))
        have hc12 := fun (i : Nat) (hi : i < 21) => one_kept (hc12 i hi) (hoq (z + 8 + 1 + i) (by omega))
        have hc4 : IAR D (z + 3) (cT 0) 10 (fu (fu (fu (fun _ => 0) 0 0) 1 1) 2 2) H := hO
        have hz : H.size = z + 30 := by omega
        refine z_iinc (k := 0) (lv' := [(1, .int (iI (3))), (0, .ref (b))]) hx hb dX7_init_86 hl rfl (by decide) rfl (fun ls hl => ?_)
        refine lv_goto (tgt := 73) hx hb dX7_init_89 (by decide) ?_
        refine lv_iload_n hx hb dX7_init_73 rfl (lv_at hl 0 rfl) ?_
        refine z_bipush hx hb dX7_init_74 (by decide) ?_
        refine z_icmp_ge (tgt := 92) hx hb (by omega) (by omega) dX7_init_76 (by decide) (fun c16 => ?_) (fun c16 => ?_)
        · exfalso; omega
        · refine lv_aload_n hx hb dX7_init_79 rfl (lv_at hl 1 rfl) ?_
          refine y_get (C := RX7) (T := TX7) (N := 11) (ref := "CoreShed") (ci := 7) hx hb hts hinX7 hown hK hc0 rfl 3 (by decide) (hts _ (by decide +kernel)) rfl (v := .ref (z + 3)) rfl dX7_init_80 ?_
          refine lv_iload_n hx hb dX7_init_83 rfl (lv_at hl 0 rfl) ?_
          refine lv_iload_n hx hb dX7_init_84 rfl (lv_at hl 0 rfl) ?_
          refine y_iast (j := 3) (v := 3) hx hb hK hS 0 hc4 (Or.inr (by omega)) rfl rfl (by decide) (by decide) dX7_init_85 (fun H locs hO hz1 hoq hS => ?_)
          have hc0 := one_kept hc0 (hoq (b) (by omega))
          have hc1 := one_kept hc1 (hoq (z) (by omega))
          have hc2 := one_kept hc2 (hoq (z + 1) (by omega))
          have hc3 := one_kept hc3 (hoq (z + 2) (by omega))
          have hc6 := one_kept hc6 (hoq (z + 4) (by omega))
          have hc7 := one_kept hc7 (hoq (z + 5) (by omega))
          have hc8 := one_kept hc8 (hoq (z + 6) (by omega))
          have hc10 := one_kept hc10 (hoq (z + 7) (by omega))
          have hc11 := one_kept hc11 (hoq (z + 8) (by omega))
          have hc12 := fun (i : Nat) (hi : i < 21) => one_kept (hc12 i hi) (hoq (z + 8 + 1 + i) (by omega))
          have hc4 : IAR D (z + 3) (cT 0) 10 (fu (fu (fu (fu (fun _ => 0) 0 0) 1 1) 2 2) 3 3) H := hO
          have hz : H.size = z + 30 := by omega
          refine z_iinc (k := 0) (lv' := [(1, .int (iI (4))), (0, .ref (b))]) hx hb dX7_init_86 hl rfl (by decide) rfl (fun ls hl => ?_)
          refine lv_goto (tgt := 73) hx hb dX7_init_89 (by decide) ?_
          refine lv_iload_n hx hb dX7_init_73 rfl (lv_at hl 0 rfl) ?_
          refine z_bipush hx hb dX7_init_74 (by decide) ?_
          refine z_icmp_ge (tgt := 92) hx hb (by omega) (by omega) dX7_init_76 (by decide) (fun c17 => ?_) (fun c17 => ?_)
          · exfalso; omega
          · refine lv_aload_n hx hb dX7_init_79 rfl (lv_at hl 1 rfl) ?_
            refine y_get (C := RX7) (T := TX7) (N := 11) (ref := "CoreShed") (ci := 7) hx hb hts hinX7 hown hK hc0 rfl 3 (by decide) (hts _ (by decide +kernel)) rfl (v := .ref (z + 3)) rfl dX7_init_80 ?_
            refine lv_iload_n hx hb dX7_init_83 rfl (lv_at hl 0 rfl) ?_
            refine lv_iload_n hx hb dX7_init_84 rfl (lv_at hl 0 rfl) ?_
            refine y_iast (j := 4) (v := 4) hx hb hK hS 0 hc4 (Or.inr (by omega)) rfl rfl (by decide) (by decide) dX7_init_85 (fun H locs hO hz1 hoq hS => ?_)
            have hc0 := one_kept hc0 (hoq (b) (by omega))
            have hc1 := one_kept hc1 (hoq (z) (by omega))
            have hc2 := one_kept hc2 (hoq (z + 1) (by omega))
            have hc3 := one_kept hc3 (hoq (z + 2) (by omega))
            have hc6 := one_kept hc6 (hoq (z + 4) (by omega))
            have hc7 := one_kept hc7 (hoq (z + 5) (by omega))
            have hc8 := one_kept hc8 (hoq (z + 6) (by omega))
            have hc10 := one_kept hc10 (hoq (z + 7) (by omega))
            have hc11 := one_kept hc11 (hoq (z + 8) (by omega))
            have hc12 := fun (i : Nat) (hi : i < 21) => one_kept (hc12 i hi) (hoq (z + 8 + 1 + i) (by omega))
            have hc4 : IAR D (z + 3) (cT 0) 10 (fu (fu (fu (fu (fu (fun _ => 0) 0 0) 1 1) 2 2) 3 3) 4 4) H := hO
            have hz : H.size = z + 30 := by omega
            refine z_iinc (k := 0) (lv' := [(1, .int (iI (5))), (0, .ref (b))]) hx hb dX7_init_86 hl rfl (by decide) rfl (fun ls hl => ?_)
            refine lv_goto (tgt := 73) hx hb dX7_init_89 (by decide) ?_
            refine lv_iload_n hx hb dX7_init_73 rfl (lv_at hl 0 rfl) ?_
            refine z_bipush hx hb dX7_init_74 (by decide) ?_
            refine z_icmp_ge (tgt := 92) hx hb (by omega) (by omega) dX7_init_76 (by decide) (fun c18 => ?_) (fun c18 => ?_)
            · exfalso; omega
            · refine lv_aload_n hx hb dX7_init_79 rfl (lv_at hl 1 rfl) ?_
              refine y_get (C := RX7) (T := TX7) (N := 11) (ref := "CoreShed") (ci := 7) hx hb hts hinX7 hown hK hc0 rfl 3 (by decide) (hts _ (by decide +kernel)) rfl (v := .ref (z + 3)) rfl dX7_init_80 ?_
              refine lv_iload_n hx hb dX7_init_83 rfl (lv_at hl 0 rfl) ?_
              refine lv_iload_n hx hb dX7_init_84 rfl (lv_at hl 0 rfl) ?_
              refine y_iast (j := 5) (v := 5) hx hb hK hS 0 hc4 (Or.inr (by omega)) rfl rfl (by decide) (by decide) dX7_init_85 (fun H locs hO hz1 hoq hS => ?_)
              have hc0 := one_kept hc0 (hoq (b) (by omega))
              have hc1 := one_kept hc1 (hoq (z) (by omega))
              have hc2 := one_kept hc2 (hoq (z + 1) (by omega))
              have hc3 := one_kept hc3 (hoq (z + 2) (by omega))
              have hc6 := one_kept hc6 (hoq (z + 4) (by omega))
              have hc7 := one_kept hc7 (hoq (z + 5) (by omega))
              have hc8 := one_kept hc8 (hoq (z + 6) (by omega))
              have hc10 := one_kept hc10 (hoq (z + 7) (by omega))
              have hc11 := one_kept hc11 (hoq (z + 8) (by omega))
              have hc12 := fun (i : Nat) (hi : i < 21) => one_kept (hc12 i hi) (hoq (z + 8 + 1 + i) (by omega))
              have hc4 : IAR D (z + 3) (cT 0) 10 (fu (fu (fu (fu (fu (fu (fun _ => 0) 0 0) 1 1) 2 2) 3 3) 4 4) 5 5) H := hO
              have hz : H.size = z + 30 := by omega
              refine z_iinc (k := 0) (lv' := [(1, .int (iI (6))), (0, .ref (b))]) hx hb dX7_init_86 hl rfl (by decide) rfl (fun ls hl => ?_)
              refine lv_goto (tgt := 73) hx hb dX7_init_89 (by decide) ?_
              refine lv_iload_n hx hb dX7_init_73 rfl (lv_at hl 0 rfl) ?_
              refine z_bipush hx hb dX7_init_74 (by decide) ?_
              refine z_icmp_ge (tgt := 92) hx hb (by omega) (by omega) dX7_init_76 (by decide) (fun c19 => ?_) (fun c19 => ?_)
              · exfalso; omega
              · refine lv_aload_n hx hb dX7_init_79 rfl (lv_at hl 1 rfl) ?_
                refine y_get (C := RX7) (T := TX7) (N := 11) (ref := "CoreShed") (ci := 7) hx hb hts hinX7 hown hK hc0 rfl 3 (by decide) (hts _ (by decide +kernel)) rfl (v := .ref (z + 3)) rfl dX7_init_80 ?_
                refine lv_iload_n hx hb dX7_init_83 rfl (lv_at hl 0 rfl) ?_
                refine lv_iload_n hx hb dX7_init_84 rfl (lv_at hl 0 rfl) ?_
                refine y_iast (j := 6) (v := 6) hx hb hK hS 0 hc4 (Or.inr (by omega)) rfl rfl (by decide) (by decide) dX7_init_85 (fun H locs hO hz1 hoq hS => ?_)
                have hc0 := one_kept hc0 (hoq (b) (by omega))
                have hc1 := one_kept hc1 (hoq (z) (by omega))
                have hc2 := one_kept hc2 (hoq (z + 1) (by omega))
                have hc3 := one_kept hc3 (hoq (z + 2) (by omega))
                have hc6 := one_kept hc6 (hoq (z + 4) (by omega))
                have hc7 := one_kept hc7 (hoq (z + 5) (by omega))
                have hc8 := one_kept hc8 (hoq (z + 6) (by omega))
                have hc10 := one_kept hc10 (hoq (z + 7) (by omega))
                have hc11 := one_kept hc11 (hoq (z + 8) (by omega))
                have hc12 := fun (i : Nat) (hi : i < 21) => one_kept (hc12 i hi) (hoq (z + 8 + 1 + i) (by omega))
                have hc4 : IAR D (z + 3) (cT 0) 10 (fu (fu (fu (fu (fu (fu (fu (fun _ => 0) 0 0) 1 1) 2 2) 3 3) 4 4) 5 5) 6 6) H := hO
                have hz : H.size = z + 30 := by omega
                refine z_iinc (k := 0) (lv' := [(1, .int (iI (7))), (0, .ref (b))]) hx hb dX7_init_86 hl rfl (by decide) rfl (fun ls hl => ?_)
                refine lv_goto (tgt := 73) hx hb dX7_init_89 (by decide) ?_
                refine lv_iload_n hx hb dX7_init_73 rfl (lv_at hl 0 rfl) ?_
                refine z_bipush hx hb dX7_init_74 (by decide) ?_
                refine z_icmp_ge (tgt := 92) hx hb (by omega) (by omega) dX7_init_76 (by decide) (fun c20 => ?_) (fun c20 => ?_)
                · exfalso; omega
                · refine lv_aload_n hx hb dX7_init_79 rfl (lv_at hl 1 rfl) ?_
                  refine y_get (C := RX7) (T := TX7) (N := 11) (ref := "CoreShed") (ci := 7) hx hb hts hinX7 hown hK hc0 rfl 3 (by decide) (hts _ (by decide +kernel)) rfl (v := .ref (z + 3)) rfl dX7_init_80 ?_
                  refine lv_iload_n hx hb dX7_init_83 rfl (lv_at hl 0 rfl) ?_
                  refine lv_iload_n hx hb dX7_init_84 rfl (lv_at hl 0 rfl) ?_
                  refine y_iast (j := 7) (v := 7) hx hb hK hS 0 hc4 (Or.inr (by omega)) rfl rfl (by decide) (by decide) dX7_init_85 (fun H locs hO hz1 hoq hS => ?_)
                  have hc0 := one_kept hc0 (hoq (b) (by omega))
                  have hc1 := one_kept hc1 (hoq (z) (by omega))
                  have hc2 := one_kept hc2 (hoq (z + 1) (by omega))
                  have hc3 := one_kept hc3 (hoq (z + 2) (by omega))
                  have hc6 := one_kept hc6 (hoq (z + 4) (by omega))
                  have hc7 := one_kept hc7 (hoq (z + 5) (by omega))
                  have hc8 := one_kept hc8 (hoq (z + 6) (by omega))
                  have hc10 := one_kept hc10 (hoq (z + 7) (by omega))
                  have hc11 := one_kept hc11 (hoq (z + 8) (by omega))
                  have hc12 := fun (i : Nat) (hi : i < 21) => one_kept (hc12 i hi) (hoq (z + 8 + 1 + i) (by omega))
                  have hc4 : IAR D (z + 3) (cT 0) 10 (fu (fu (fu (fu (fu (fu (fu (fu (fun _ => 0) 0 0) 1 1) 2 2) 3 3) 4 4) 5 5) 6 6) 7 7) H := hO
                  have hz : H.size = z + 30 := by omega
                  refine z_iinc (k := 0) (lv' := [(1, .int (iI (8))), (0, .ref (b))]) hx hb dX7_init_86 hl rfl (by decide) rfl (fun ls hl => ?_)
                  refine lv_goto (tgt := 73) hx hb dX7_init_89 (by decide) ?_
                  refine lv_iload_n hx hb dX7_init_73 rfl (lv_at hl 0 rfl) ?_
                  refine z_bipush hx hb dX7_init_74 (by decide) ?_
                  refine z_icmp_ge (tgt := 92) hx hb (by omega) (by omega) dX7_init_76 (by decide) (fun c21 => ?_) (fun c21 => ?_)
                  · exfalso; omega
                  · refine lv_aload_n hx hb dX7_init_79 rfl (lv_at hl 1 rfl) ?_
                    refine y_get (C := RX7) (T := TX7) (N := 11) (ref := "CoreShed") (ci := 7) hx hb hts hinX7 hown hK hc0 rfl 3 (by decide) (hts _ (by decide +kernel)) rfl (v := .ref (z + 3)) rfl dX7_init_80 ?_
                    refine lv_iload_n hx hb dX7_init_83 rfl (lv_at hl 0 rfl) ?_
                    refine lv_iload_n hx hb dX7_init_84 rfl (lv_at hl 0 rfl) ?_
                    refine y_iast (j := 8) (v := 8) hx hb hK hS 0 hc4 (Or.inr (by omega)) rfl rfl (by decide) (by decide) dX7_init_85 (fun H locs hO hz1 hoq hS => ?_)
                    have hc0 := one_kept hc0 (hoq (b) (by omega))
                    have hc1 := one_kept hc1 (hoq (z) (by omega))
                    have hc2 := one_kept hc2 (hoq (z + 1) (by omega))
                    have hc3 := one_kept hc3 (hoq (z + 2) (by omega))
                    have hc6 := one_kept hc6 (hoq (z + 4) (by omega))
                    have hc7 := one_kept hc7 (hoq (z + 5) (by omega))
                    have hc8 := one_kept hc8 (hoq (z + 6) (by omega))
                    have hc10 := one_kept hc10 (hoq (z + 7) (by omega))
                    have hc11 := one_kept hc11 (hoq (z + 8) (by omega))
                    have hc12 := fun (i : Nat) (hi : i < 21) => one_kept (hc12 i hi) (hoq (z + 8 + 1 + i) (by omega))
                    have hc4 : IAR D (z + 3) (cT 0) 10 (fu (fu (fu (fu (fu (fu (fu (fu (fu (fun _ => 0) 0 0) 1 1) 2 2) 3 3) 4 4) 5 5) 6 6) 7 7) 8 8) H := hO
                    have hz : H.size = z + 30 := by omega
                    refine z_iinc (k := 0) (lv' := [(1, .int (iI (9))), (0, .ref (b))]) hx hb dX7_init_86 hl rfl (by decide) rfl (fun ls hl => ?_)
                    refine lv_goto (tgt := 73) hx hb dX7_init_89 (by decide) ?_
                    refine lv_iload_n hx hb dX7_init_73 rfl (lv_at hl 0 rfl) ?_
                    refine z_bipush hx hb dX7_init_74 (by decide) ?_
                    refine z_icmp_ge (tgt := 92) hx hb (by omega) (by omega) dX7_init_76 (by decide) (fun c22 => ?_) (fun c22 => ?_)
                    · exfalso; omega
                    · refine lv_aload_n hx hb dX7_init_79 rfl (lv_at hl 1 rfl) ?_
                      refine y_get (C := RX7) (T := TX7) (N := 11) (ref := "CoreShed") (ci := 7) hx hb hts hinX7 hown hK hc0 rfl 3 (by decide) (hts _ (by decide +kernel)) rfl (v := .ref (z + 3)) rfl dX7_init_80 ?_
                      refine lv_iload_n hx hb dX7_init_83 rfl (lv_at hl 0 rfl) ?_
                      refine lv_iload_n hx hb dX7_init_84 rfl (lv_at hl 0 rfl) ?_
                      refine y_iast (j := 9) (v := 9) hx hb hK hS 0 hc4 (Or.inr (by omega)) rfl rfl (by decide) (by decide) dX7_init_85 (fun H locs hO hz1 hoq hS => ?_)
                      have hc0 := one_kept hc0 (hoq (b) (by omega))
                      have hc1 := one_kept hc1 (hoq (z) (by omega))
                      have hc2 := one_kept hc2 (hoq (z + 1) (by omega))
                      have hc3 := one_kept hc3 (hoq (z + 2) (by omega))
                      have hc6 := one_kept hc6 (hoq (z + 4) (by omega))
                      have hc7 := one_kept hc7 (hoq (z + 5) (by omega))
                      have hc8 := one_kept hc8 (hoq (z + 6) (by omega))
                      have hc10 := one_kept hc10 (hoq (z + 7) (by omega))
                      have hc11 := one_kept hc11 (hoq (z + 8) (by omega))
                      have hc12 := fun (i : Nat) (hi : i < 21) => one_kept (hc12 i hi) (hoq (z + 8 + 1 + i) (by omega))
                      have hc4 : IAR D (z + 3) (cT 0) 10 (fu (fu (fu (fu (fu (fu (fu (fu (fu (fu (fun _ => 0) 0 0) 1 1) 2 2) 3 3) 4 4) 5 5) 6 6) 7 7) 8 8) 9 9) H := hO
                      have hz : H.size = z + 30 := by omega
                      refine z_iinc (k := 0) (lv' := [(1, .int (iI (10))), (0, .ref (b))]) hx hb dX7_init_86 hl rfl (by decide) rfl (fun ls hl => ?_)
                      refine lv_goto (tgt := 73) hx hb dX7_init_89 (by decide) ?_
                      refine lv_iload_n hx hb dX7_init_73 rfl (lv_at hl 0 rfl) ?_
                      refine z_bipush hx hb dX7_init_74 (by decide) ?_
                      refine z_icmp_ge (tgt := 92) hx hb (by omega) (by omega) dX7_init_76 (by decide) (fun c23 => ?_) (fun c23 => ?_)
                      · have hc4 : IAR D (z + 3) (cT 0) 10 (fun i => (i : Int)) H := IAR_cong hc4 (by decide)
                        exact n_vret hx hb hr hlocks ⟨hz, hc0, hc1, hc2, hc3, hc4, hc6, hc7, hc8, hc10, hc11, hc12⟩ hS (Nat.le_of_ble_eq_true rfl) (Nat.le_of_ble_eq_true rfl) dX7_init_92
                      · exfalso; omega
