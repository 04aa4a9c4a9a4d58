def mIx : Nat → Nat := fun j => match j with
  | 0 => 1
  | 1 => 2
  | 2 => 3
  | 3 => 4
  | 4 => 5
  | 5 => 6
  | 6 => 7
  | 7 => 8
  | 8 => 9
  | 9 => 10
  | 10 => 11
  | 11 => 13
  | 12 => 14
  | 13 => 15
  | 14 => 16
  | 15 => 19
  | 16 => 20
  | 17 => 21
  | 18 => 22
  | 19 => 23
  | 20 => 24
  | 21 => 25
  | 22 => 26
  | _ => 0
def mB (D : va_G) (cI cZ : ClassId) (z k : Nat) (φ : Tau) (H : Heap) : Prop := ∀ j, j < k → IAR D (z + j) (mC cI cZ (mIx j)) (mLen (mIx j)) (φ j) H
theorem mB_s {D : va_G} {cI cZ : ClassId} {z k : Nat} {H H1 : Heap} (hB : mB D cI cZ z k (fun _ _ => 0) H) (hn : IAR D (z + k) (mC cI cZ (mIx k)) (mLen (mIx k)) (fun _ => 0) H1) (hold : ∀ q : Nat, q < z + k → H1[q]? = H[q]?) : mB D cI cZ z (k + 1) (fun _ _ => 0) H1 := fun j hj => by
  by_cases e : j = k
  · subst e
    exact hn
  · exact one_kept (hB j (by omega)) (hold (z + j) (by omega))
theorem mB_k {D : va_G} {cI cZ : ClassId} {z k b : Nat} {φ : Tau} {H H1 : Heap} (hB : mB D cI cZ z k φ H) (hb : b < z) (oq : ∀ q : Nat, q ≠ b → H1[q]? = H[q]?) : mB D cI cZ z k φ H1 := fun j hj => one_kept (hB j hj) (oq (z + j) (by omega))
theorem mB_put {D : va_G} {cI cZ : ClassId} {z k j i : Nat} {v : Int} {φ : Tau} {H H1 : Heap} (hB : mB D cI cZ z k φ H) (hn : IAR D (z + j) (mC cI cZ (mIx j)) (mLen (mIx j)) (fu (φ j) i v) H1) (oq : ∀ q : Nat, q ≠ z + j → H1[q]? = H[q]?) : mB D cI cZ z k (tu φ j i v) H1 := fun j2 hj => by
  by_cases e : j2 = j
  · subst e
    rw [tu_c]
    exact hn
  · rw [tu_n e]
    exact one_kept (hB j2 hj) (oq (z + j2) (by omega))
def τ0 : Tau := fun c i => match c with
  | 11 => if i < 10 then (i : Int) else 0
  | 25 => if i = 0 then 5 else if i = 1 then 100 else 0
  | _ => 0
def mAd (b z : Nat) : Nat → Nat := fun c => match c with
  | 0 => b
  | 1 => z
  | 2 => z + 1
  | 3 => z + 2
  | 4 => z + 3
  | 5 => z + 4
  | 6 => z + 5
  | 7 => z + 6
  | 8 => z + 7
  | 9 => z + 8
  | 10 => z + 9
  | 11 => z + 10
  | 13 => z + 11
  | 14 => z + 12
  | 15 => z + 13
  | 16 => z + 14
  | 19 => z + 15
  | 20 => z + 16
  | 21 => z + 17
  | 22 => z + 18
  | 23 => z + 19
  | 24 => z + 20
  | 25 => z + 21
  | 26 => z + 22
  | _ => 0
theorem mLen_27 (c : Nat) (h : 27 ≤ c) : ¬ 0 < mLen c := by
  unfold mLen
  split <;> omega
theorem mR_lt {c : Nat} (hc : mR c) : c < 27 := by
  rcases hc with q | q
  · omega
  · exact Classical.byContradiction fun k => mLen_27 c (by omega) q
theorem mAd_key {b z : Nat} (c : Nat) (hc : mR c) (hl : c < 27) : (c = 0 ∧ mAd b z c = b) ∨ ∃ j, mAd b z c = z + j ∧ [1, 2, 3, 4, 5, 6, 7, 8, 9, 10, 11, 13, 14, 15, 16, 19, 20, 21, 22, 23, 24, 25, 26][j]? = some c := by
  match c, hc, hl with
  | 0, _, _ => exact Or.inl ⟨rfl, rfl⟩
  | 1, _, _ => exact Or.inr ⟨0, rfl, rfl⟩
  | 2, _, _ => exact Or.inr ⟨1, rfl, rfl⟩
  | 3, _, _ => exact Or.inr ⟨2, rfl, rfl⟩
  | 4, _, _ => exact Or.inr ⟨3, rfl, rfl⟩
  | 5, _, _ => exact Or.inr ⟨4, rfl, rfl⟩
  | 6, _, _ => exact Or.inr ⟨5, rfl, rfl⟩
  | 7, _, _ => exact Or.inr ⟨6, rfl, rfl⟩
  | 8, _, _ => exact Or.inr ⟨7, rfl, rfl⟩
  | 9, _, _ => exact Or.inr ⟨8, rfl, rfl⟩
  | 10, _, _ => exact Or.inr ⟨9, rfl, rfl⟩
  | 11, _, _ => exact Or.inr ⟨10, rfl, rfl⟩
  | 13, _, _ => exact Or.inr ⟨11, rfl, rfl⟩
  | 14, _, _ => exact Or.inr ⟨12, rfl, rfl⟩
  | 15, _, _ => exact Or.inr ⟨13, rfl, rfl⟩
  | 16, _, _ => exact Or.inr ⟨14, rfl, rfl⟩
  | 19, _, _ => exact Or.inr ⟨15, rfl, rfl⟩
  | 20, _, _ => exact Or.inr ⟨16, rfl, rfl⟩
  | 21, _, _ => exact Or.inr ⟨17, rfl, rfl⟩
  | 22, _, _ => exact Or.inr ⟨18, rfl, rfl⟩
  | 23, _, _ => exact Or.inr ⟨19, rfl, rfl⟩
  | 24, _, _ => exact Or.inr ⟨20, rfl, rfl⟩
  | 25, _, _ => exact Or.inr ⟨21, rfl, rfl⟩
  | 26, _, _ => exact Or.inr ⟨22, rfl, rfl⟩
  | 12, hc, _ => exact absurd hc (by unfold mR; decide)
  | 17, hc, _ => exact absurd hc (by unfold mR; decide)
  | 18, hc, _ => exact absurd hc (by unfold mR; decide)
  | c + 27, _, hl => omega
theorem mAd_inj {b z : Nat} (hb : b < z) (c c2 : Nat) (h1 : mR c) (h2 : mR c2) (h : mAd b z c = mAd b z c2) : c = c2 := by
  rcases mAd_key (b := b) (z := z) c h1 (mR_lt h1) with ⟨e1, e2⟩ | ⟨j, e1, e2⟩ <;> rcases mAd_key (b := b) (z := z) c2 h2 (mR_lt h2) with ⟨f1, f2⟩ | ⟨j2, f1, f2⟩
  · omega
  · omega
  · omega
  · have : j = j2 := by omega
    subst this
    exact Option.some.inj (e2.symm.trans f2)
theorem mAd_r {b z : Nat} (c : Nat) (hc : mR c) : mAd b z c = b ∨ z ≤ mAd b z c := by
  rcases mAd_key (b := b) (z := z) c hc (mR_lt hc) with ⟨e1, e2⟩ | ⟨j, e1, e2⟩
  · exact Or.inl e2
  · exact Or.inr (by omega)
theorem m_made {D : va_G} {cI cZ : ClassId} {b z : Nat} {H : Heap} (hb : b < z) (h0 : OBJ D b 8 [.int (iI 0), .ref (z + 0), .ref (z + 1), .ref (z + 2), .ref (z + 3), .ref (z + 4), .ref (z + 5), .ref (z + 6), .ref (z + 7), .ref (z + 8), .ref (z + 9), .ref (z + 10), .int (iI 0), .ref (z + 11), .ref (z + 12), .ref (z + 13), .ref (z + 14), .int (iI 0), .int (iI 0), .ref (z + 15), .ref (z + 16), .ref (z + 17), .ref (z + 18), .ref (z + 19), .ref (z + 20), .ref (z + 21), .ref (z + 22)] H) (hB : mB D cI cZ z 23 (tu (tu (tu (tu (tu (tu (tu (tu (tu (tu (tu (tu (fun _ _ => 0) 10 0 0) 10 1 1) 10 2 2) 10 3 3) 10 4 4) 10 5 5) 10 6 6) 10 7 7) 10 8 8) 10 9 9) 21 0 5) 21 1 100) H) : MW D cI cZ (mAd b z) τ0 H := by
  refine ⟨h0, fun c hc => ?_, mAd_inj hb⟩
  have hlt : c < 27 := mR_lt (Or.inr hc)
  match c, hc, hlt with
  | 1, _, _ => exact IAR_cong (hB 0 (by decide)) (fun i _ => rfl)
  | 2, _, _ => exact IAR_cong (hB 1 (by decide)) (fun i _ => rfl)
  | 3, _, _ => exact IAR_cong (hB 2 (by decide)) (fun i _ => rfl)
  | 4, _, _ => exact IAR_cong (hB 3 (by decide)) (fun i _ => rfl)
  | 5, _, _ => exact IAR_cong (hB 4 (by decide)) (fun i _ => rfl)
  | 6, _, _ => exact IAR_cong (hB 5 (by decide)) (fun i _ => rfl)
  | 7, _, _ => exact IAR_cong (hB 6 (by decide)) (fun i _ => rfl)
  | 8, _, _ => exact IAR_cong (hB 7 (by decide)) (fun i _ => rfl)
  | 9, _, _ => exact IAR_cong (hB 8 (by decide)) (fun i _ => rfl)
  | 10, _, _ => exact IAR_cong (hB 9 (by decide)) (fun i _ => rfl)
  | 11, _, _ => exact IAR_cong (hB 10 (by decide)) (by decide)
  | 13, _, _ => exact IAR_cong (hB 11 (by decide)) (fun i _ => rfl)
  | 14, _, _ => exact IAR_cong (hB 12 (by decide)) (fun i _ => rfl)
  | 15, _, _ => exact IAR_cong (hB 13 (by decide)) (fun i _ => rfl)
  | 16, _, _ => exact IAR_cong (hB 14 (by decide)) (fun i _ => rfl)
  | 19, _, _ => exact IAR_cong (hB 15 (by decide)) (fun i _ => rfl)
  | 20, _, _ => exact IAR_cong (hB 16 (by decide)) (fun i _ => rfl)
  | 21, _, _ => exact IAR_cong (hB 17 (by decide)) (fun i _ => rfl)
  | 22, _, _ => exact IAR_cong (hB 18 (by decide)) (fun i _ => rfl)
  | 23, _, _ => exact IAR_cong (hB 19 (by decide)) (fun i _ => rfl)
  | 24, _, _ => exact IAR_cong (hB 20 (by decide)) (fun i _ => rfl)
  | 25, _, _ => exact IAR_cong (hB 21 (by decide)) (by decide)
  | 26, _, _ => exact IAR_cong (hB 22 (by decide)) (fun i _ => rfl)
  | 0, hc, _ => exact absurd hc (by decide)
  | 12, hc, _ => exact absurd hc (by decide)
  | 17, hc, _ => exact absurd hc (by decide)
  | 18, hc, _ => exact absurd hc (by decide)
  | c + 27, _, hl => omega
set_option maxHeartbeats 4000000 in
set_option maxRecDepth 100000 in
theorem c8_init (l : Launch) (D : va_G) (cI cZ : ClassId) (b z : Nat) : Met l yX8_init wsX8_init { frames := 1, cells := 23, slots := 1675, locals := 20 } (nPc D (mT cI cZ) TW (fun H => H.size = z ∧ b < z ∧ OBJ D (b) 8 [.int (iI 0), .null, .null, .null, .null, .null, .null, .null, .null, .null, .null, .null, .int (iI 0), .null, .null, .null, .null, .int (iI 0), .int (iI 0), .null, .null, .null, .null, .null, .null, .null, .null] H) [.ref b]) (nQ none (fun q => q = b ∨ z ≤ q) (fun H => H.size = z + 23 ∧ MW D cI cZ (mAd b z) τ0 H)) 23 1675 (fun q => q = b ∨ z ≤ q) := by
  refine n_start (by decide) rfl (Nat.le_of_ble_eq_true rfl) ?_
  intro p e s m below meth c hx hb hr hlocks hml hts hown hname hpre hK hE ls hl
  have hinX8 : ∀ w ∈ wsX80, w ∈ wsX8_init := by decide +kernel
  have hl : lv_has ls 2 [(0, .ref (b))] := hl
  have hS : va_S (fun q => q = b ∨ z ≤ q) s.heap s.heap [] := va_S.rf
  obtain ⟨hz, hbz, hc0⟩ := hpre
  have hB : mB D cI cZ z 0 (fun _ _ => 0) s.heap := fun j hj => absurd hj (Nat.not_lt_zero j)
  refine lv_aload_n hx hb dX8_init_0 rfl (lv_at hl 0 rfl) ?_
  refine W.objInit hx hb hown (hts (.methodLink RX8 1 objectInit) (by decide +kernel)) (hts (.instanceMethod objectInit) (by decide +kernel)) (hts (.code objectInit ⟨#[0xb1]⟩ 1 none) (by decide +kernel)) rfl (by rw [hml]; exact hl.1) rfl dX8_init_1 (Nat.le_of_ble_eq_true rfl) (Nat.le_of_ble_eq_true rfl) ?_
  refine W.eq (g2 := F0 m 4 ls []) rfl ?_
  refine lv_aload_n hx hb dX8_init_4 rfl (lv_at hl 0 rfl) ?_
  refine z_iconst hx hb dX8_init_5 ?_
  refine y_newa (atype := .int) (ty := .int) (cA := cI) (a := z + 0) (n := 4) (N := 4) hx hb rfl (Or.inl rfl) (hts (.arrayClass .int) (by decide +kernel)) hK 0 rfl hS rfl (by decide) (Nat.le_of_ble_eq_true rfl) (Nat.le_of_ble_eq_true rfl) hz dX8_init_6 (fun H hn hz1 hold hS => ?_)
  have hc0 := one_kept hc0 (hold b (Nat.lt_of_lt_of_le hbz (Nat.le_add_right z 0)))
  have hB := mB_s hB hn hold
  have hz : H.size = z + 1 := hz1
  refine y_putF (C := RX8) (T := TX8) (N := 27) (ref := "CoreShedModel") (ci := 8) (v := .ref (z + 0)) (ty := .array .int) hx hb hts hinX8 tyX8 tyX8_ok nmX8 hown hK hS hc0 (Or.inl rfl) rfl 1 (by decide) (hts _ (by decide +kernel)) rfl rfl hname rfl (by decide +kernel) rfl rfl (Nat.le_of_ble_eq_true rfl) dX8_init_8 (fun H locs hO hz1 hoq hS => ?_)
  have hc0 : OBJ D (b) 8 [.int (iI 0), .ref (z + 0), .null, .null, .null, .null, .null, .null, .null, .null, .null, .null, .int (iI 0), .null, .null, .null, .null, .int (iI 0), .int (iI 0), .null, .null, .null, .null, .null, .null, .null, .null] H := hO
  have hz : H.size = z + 1 := hz1.trans hz
  have hB := mB_k hB hbz hoq
  refine lv_aload_n hx hb dX8_init_11 rfl (lv_at hl 0 rfl) ?_
  refine z_bipush hx hb dX8_init_12 (by decide) ?_
  refine y_newa (atype := .int) (ty := .int) (cA := cI) (a := z + 1) (n := 80) (N := 80) hx hb rfl (Or.inl rfl) (hts (.arrayClass .int) (by decide +kernel)) hK 0 rfl hS rfl (by decide) (Nat.le_of_ble_eq_true rfl) (Nat.le_of_ble_eq_true rfl) hz dX8_init_14 (fun H hn hz1 hold hS => ?_)
  have hc0 := one_kept hc0 (hold b (Nat.lt_of_lt_of_le hbz (Nat.le_add_right z 1)))
  have hB := mB_s hB hn hold
  have hz : H.size = z + 2 := hz1
  refine y_putF (C := RX8) (T := TX8) (N := 27) (ref := "CoreShedModel") (ci := 8) (v := .ref (z + 1)) (ty := .array .int) hx hb hts hinX8 tyX8 tyX8_ok nmX8 hown hK hS hc0 (Or.inl rfl) rfl 2 (by decide) (hts _ (by decide +kernel)) rfl rfl hname rfl (by decide +kernel) rfl rfl (Nat.le_of_ble_eq_true rfl) dX8_init_16 (fun H locs hO hz1 hoq hS => ?_)
  have hc0 : OBJ D (b) 8 [.int (iI 0), .ref (z + 0), .ref (z + 1), .null, .null, .null, .null, .null, .null, .null, .null, .null, .int (iI 0), .null, .null, .null, .null, .int (iI 0), .int (iI 0), .null, .null, .null, .null, .null, .null, .null, .null] H := hO
  have hz : H.size = z + 2 := hz1.trans hz
  have hB := mB_k hB hbz hoq
  refine lv_aload_n hx hb dX8_init_19 rfl (lv_at hl 0 rfl) ?_
  refine z_bipush hx hb dX8_init_20 (by decide) ?_
  refine y_newa (atype := .int) (ty := .int) (cA := cI) (a := z + 2) (n := 80) (N := 80) hx hb rfl (Or.inl rfl) (hts (.arrayClass .int) (by decide +kernel)) hK 0 rfl hS rfl (by decide) (Nat.le_of_ble_eq_true rfl) (Nat.le_of_ble_eq_true rfl) hz dX8_init_22 (fun H hn hz1 hold hS => ?_)
  have hc0 := one_kept hc0 (hold b (Nat.lt_of_lt_of_le hbz (Nat.le_add_right z 2)))
  have hB := mB_s hB hn hold
  have hz : H.size = z + 3 := hz1
  refine y_putF (C := RX8) (T := TX8) (N := 27) (ref := "CoreShedModel") (ci := 8) (v := .ref (z + 2)) (ty := .array .int) hx hb hts hinX8 tyX8 tyX8_ok nmX8 hown hK hS hc0 (Or.inl rfl) rfl 3 (by decide) (hts _ (by decide +kernel)) rfl rfl hname rfl (by decide +kernel) rfl rfl (Nat.le_of_ble_eq_true rfl) dX8_init_24 (fun H locs hO hz1 hoq hS => ?_)
  have hc0 : OBJ D (b) 8 [.int (iI 0), .ref (z + 0), .ref (z + 1), .ref (z + 2), .null, .null, .null, .null, .null, .null, .null, .null, .int (iI 0), .null, .null, .null, .null, .int (iI 0), .int (iI 0), .null, .null, .null, .null, .null, .null, .null, .null] H := hO
  have hz : H.size = z + 3 := hz1.trans hz
  have hB := mB_k hB hbz hoq
  refine lv_aload_n hx hb dX8_init_27 rfl (lv_at hl 0 rfl) ?_
  refine z_iconst hx hb dX8_init_28 ?_
  refine y_newa (atype := .int) (ty := .int) (cA := cI) (a := z + 3) (n := 4) (N := 4) hx hb rfl (Or.inl rfl) (hts (.arrayClass .int) (by decide +kernel)) hK 0 rfl hS rfl (by decide) (Nat.le_of_ble_eq_true rfl) (Nat.le_of_ble_eq_true rfl) hz dX8_init_29 (fun H hn hz1 hold hS => ?_)
  have hc0 := one_kept hc0 (hold b (Nat.lt_of_lt_of_le hbz (Nat.le_add_right z 3)))
  have hB := mB_s hB hn hold
  have hz : H.size = z + 4 := hz1
  refine y_putF (C := RX8) (T := TX8) (N := 27) (ref := "CoreShedModel") (ci := 8) (v := .ref (z + 3)) (ty := .array .int) hx hb hts hinX8 tyX8 tyX8_ok nmX8 hown hK hS hc0 (Or.inl rfl) rfl 4 (by decide) (hts _ (by decide +kernel)) rfl rfl hname rfl (by decide +kernel) rfl rfl (Nat.le_of_ble_eq_true rfl) dX8_init_31 (fun H locs hO hz1 hoq hS => ?_)
  have hc0 : OBJ D (b) 8 [.int (iI 0), .ref (z + 0), .ref (z + 1), .ref (z + 2), .ref (z + 3), .null, .null, .null, .null, .null, .null, .null, .int (iI 0), .null, .null, .null, .null, .int (iI 0), .int (iI 0), .null, .null, .null, .null, .null, .null, .null, .null] H := hO
  have hz : H.size = z + 4 := hz1.trans hz
  have hB := mB_k hB hbz hoq
  refine lv_aload_n hx hb dX8_init_34 rfl (lv_at hl 0 rfl) ?_
  refine z_bipush hx hb dX8_init_35 (by decide) ?_
  refine y_newa (atype := .int) (ty := .int) (cA := cI) (a := z + 4) (n := 80) (N := 80) hx hb rfl (Or.inl rfl) (hts (.arrayClass .int) (by decide +kernel)) hK 0 rfl hS rfl (by decide) (Nat.le_of_ble_eq_true rfl) (Nat.le_of_ble_eq_true rfl) hz dX8_init_37 (fun H hn hz1 hold hS => ?_)
  have hc0 := one_kept hc0 (hold b (Nat.lt_of_lt_of_le hbz (Nat.le_add_right z 4)))
  have hB := mB_s hB hn hold
  have hz : H.size = z + 5 := hz1
  refine y_putF (C := RX8) (T := TX8) (N := 27) (ref := "CoreShedModel") (ci := 8) (v := .ref (z + 4)) (ty := .array .int) hx hb hts hinX8 tyX8 tyX8_ok nmX8 hown hK hS hc0 (Or.inl rfl) rfl 5 (by decide) (hts _ (by decide +kernel)) rfl rfl hname rfl (by decide +kernel) rfl rfl (Nat.le_of_ble_eq_true rfl) dX8_init_39 (fun H locs hO hz1 hoq hS => ?_)
  have hc0 : OBJ D (b) 8 [.int (iI 0), .ref (z + 0), .ref (z + 1), .ref (z + 2), .ref (z + 3), .ref (z + 4), .null, .null, .null, .null, .null, .null, .int (iI 0), .null, .null, .null, .null, .int (iI 0), .int (iI 0), .null, .null, .null, .null, .null, .null, .null, .null] H := hO
  have hz : H.size = z + 5 := hz1.trans hz
  have hB := mB_k hB hbz hoq
  refine lv_aload_n hx hb dX8_init_42 rfl (lv_at hl 0 rfl) ?_
  refine z_bipush hx hb dX8_init_43 (by decide) ?_
  refine y_newa (atype := .int) (ty := .int) (cA := cI) (a := z + 5) (n := 20) (N := 20) hx hb rfl (Or.inl rfl) (hts (.arrayClass .int) (by decide +kernel)) hK 0 rfl hS rfl (by decide) (Nat.le_of_ble_eq_true rfl) (Nat.le_of_ble_eq_true rfl) hz dX8_init_45 (fun H hn hz1 hold hS => ?_)
  have hc0 := one_kept hc0 (hold b (Nat.lt_of_lt_of_le hbz (Nat.le_add_right z 5)))
  have hB := mB_s hB hn hold
  have hz : H.size = z + 6 := hz1
  refine y_putF (C := RX8) (T := TX8) (N := 27) (ref := "CoreShedModel") (ci := 8) (v := .ref (z + 5)) (ty := .array .int) hx hb hts hinX8 tyX8 tyX8_ok nmX8 hown hK hS hc0 (Or.inl rfl) rfl 6 (by decide) (hts _ (by decide +kernel)) rfl rfl hname rfl (by decide +kernel) rfl rfl (Nat.le_of_ble_eq_true rfl) dX8_init_47 (fun H locs hO hz1 hoq hS => ?_)
  have hc0 : OBJ D (b) 8 [.int (iI 0), .ref (z + 0), .ref (z + 1), .ref (z + 2), .ref (z + 3), .ref (z + 4), .ref (z + 5), .null, .null, .null, .null, .null, .int (iI 0), .null, .null, .null, .null, .int (iI 0), .int (iI 0), .null, .null, .null, .null, .null, .null, .null, .null] H := hO
  have hz : H.size = z + 6 := hz1.trans hz
  have hB := mB_k hB hbz hoq
  refine lv_aload_n hx hb dX8_init_50 rfl (lv_at hl 0 rfl) ?_
  refine z_bipush hx hb dX8_init_51 (by decide) ?_
  refine y_newa (atype := .boolean) (ty := .boolean) (cA := cZ) (a := z + 6) (n := 20) (N := 20) hx hb rfl (Or.inr rfl) (hts (.arrayClass .boolean) (by decide +kernel)) hK 1 rfl hS rfl (by decide) (Nat.le_of_ble_eq_true rfl) (Nat.le_of_ble_eq_true rfl) hz dX8_init_53 (fun H hn hz1 hold hS => ?_)
  have hc0 := one_kept hc0 (hold b (Nat.lt_of_lt_of_le hbz (Nat.le_add_right z 6)))
  have hB := mB_s hB hn hold
  have hz : H.size = z + 7 := hz1
  refine y_putF (C := RX8) (T := TX8) (N := 27) (ref := "CoreShedModel") (ci := 8) (v := .ref (z + 6)) (ty := .array .boolean) hx hb hts hinX8 tyX8 tyX8_ok nmX8 hown hK hS hc0 (Or.inl rfl) rfl 7 (by decide) (hts _ (by decide +kernel)) rfl rfl hname rfl (by decide +kernel) rfl rfl (Nat.le_of_ble_eq_true rfl) dX8_init_55 (fun H locs hO hz1 hoq hS => ?_)
  have hc0 : OBJ D (b) 8 [.int (iI 0), .ref (z + 0), .ref (z + 1), .ref (z + 2), .ref (z + 3), .ref (z + 4), .ref (z + 5), .ref (z + 6), .null, .null, .null, .null, .int (iI 0), .null, .null, .null, .null, .int (iI 0), .int (iI 0), .null, .null, .null, .null, .null, .null, .null, .null] H := hO
  have hz : H.size = z + 7 := hz1.trans hz
  have hB := mB_k hB hbz hoq
  refine lv_aload_n hx hb dX8_init_58 rfl (lv_at hl 0 rfl) ?_
  refine z_bipush hx hb dX8_init_59 (by decide) ?_
  refine y_newa (atype := .int) (ty := .int) (cA := cI) (a := z + 7) (n := 8) (N := 8) hx hb rfl (Or.inl rfl) (hts (.arrayClass .int) (by decide +kernel)) hK 0 rfl hS rfl (by decide) (Nat.le_of_ble_eq_true rfl) (Nat.le_of_ble_eq_true rfl) hz dX8_init_61 (fun H hn hz1 hold hS => ?_)
  have hc0 := one_kept hc0 (hold b (Nat.lt_of_lt_of_le hbz (Nat.le_add_right z 7)))
  have hB := mB_s hB hn hold
  have hz : H.size = z + 8 := hz1
  refine y_putF (C := RX8) (T := TX8) (N := 27) (ref := "CoreShedModel") (ci := 8) (v := .ref (z + 7)) (ty := .array .int) hx hb hts hinX8 tyX8 tyX8_ok nmX8 hown hK hS hc0 (Or.inl rfl) rfl 8 (by decide) (hts _ (by decide +kernel)) rfl rfl hname rfl (by decide +kernel) rfl rfl (Nat.le_of_ble_eq_true rfl) dX8_init_63 (fun H locs hO hz1 hoq hS => ?_)
  have hc0 : OBJ D (b) 8 [.int (iI 0), .ref (z + 0), .ref (z + 1), .ref (z + 2), .ref (z + 3), .ref (z + 4), .ref (z + 5), .ref (z + 6), .ref (z + 7), .null, .null, .null, .int (iI 0), .null, .null, .null, .null, .int (iI 0), .int (iI 0), .null, .null, .null, .null, .null, .null, .null, .null] H := hO
  have hz : H.size = z + 8 := hz1.trans hz
  have hB := mB_k hB hbz hoq
  refine lv_aload_n hx hb dX8_init_66 rfl (lv_at hl 0 rfl) ?_
  refine z_sipush hx hb dX8_init_67 (by decide) ?_
  refine y_newa (atype := .int) (ty := .int) (cA := cI) (a := z + 8) (n := 160) (N := 160) hx hb rfl (Or.inl rfl) (hts (.arrayClass .int) (by decide +kernel)) hK 0 rfl hS rfl (by decide) (Nat.le_of_ble_eq_true rfl) (Nat.le_of_ble_eq_true rfl) hz dX8_init_70 (fun H hn hz1 hold hS => ?_)
  have hc0 := one_kept hc0 (hold b (Nat.lt_of_lt_of_le hbz (Nat.le_add_right z 8)))
  have hB := mB_s hB hn hold
  have hz : H.size = z + 9 := hz1
  refine y_putF (C := RX8) (T := TX8) (N := 27) (ref := "CoreShedModel") (ci := 8) (v := .ref (z + 8)) (ty := .array .int) hx hb hts hinX8 tyX8 tyX8_ok nmX8 hown hK hS hc0 (Or.inl rfl) rfl 9 (by decide) (hts _ (by decide +kernel)) rfl rfl hname rfl (by decide +kernel) rfl rfl (Nat.le_of_ble_eq_true rfl) dX8_init_72 (fun H locs hO hz1 hoq hS => ?_)
  have hc0 : OBJ D (b) 8 [.int (iI 0), .ref (z + 0), .ref (z + 1), .ref (z + 2), .ref (z + 3), .ref (z + 4), .ref (z + 5), .ref (z + 6), .ref (z + 7), .ref (z + 8), .null, .null, .int (iI 0), .null, .null, .null, .null, .int (iI 0), .int (iI 0), .null, .null, .null, .null, .null, .null, .null, .null] H := hO
  have hz : H.size = z + 9 := hz1.trans hz
  have hB := mB_k hB hbz hoq
  refine lv_aload_n hx hb dX8_init_75 rfl (lv_at hl 0 rfl) ?_
  refine z_sipush hx hb dX8_init_76 (by decide) ?_
  refine y_newa (atype := .int) (ty := .int) (cA := cI) (a := z + 9) (n := 160) (N := 160) hx hb rfl (Or.inl rfl) (hts (.arrayClass .int) (by decide +kernel)) hK 0 rfl hS rfl (by decide) (Nat.le_of_ble_eq_true rfl) (Nat.le_of_ble_eq_true rfl) hz dX8_init_79 (fun H hn hz1 hold hS => ?_)
  have hc0 := one_kept hc0 (hold b (Nat.lt_of_lt_of_le hbz (Nat.le_add_right z 9)))
  have hB := mB_s hB hn hold
  have hz : H.size = z + 10 := hz1
  refine y_putF (C := RX8) (T := TX8) (N := 27) (ref := "CoreShedModel") (ci := 8) (v := .ref (z + 9)) (ty := .array .int) hx hb hts hinX8 tyX8 tyX8_ok nmX8 hown hK hS hc0 (Or.inl rfl) rfl 10 (by decide) (hts _ (by decide +kernel)) rfl rfl hname rfl (by decide +kernel) rfl rfl (Nat.le_of_ble_eq_true rfl) dX8_init_81 (fun H locs hO hz1 hoq hS => ?_)
  have hc0 : OBJ D (b) 8 [.int (iI 0), .ref (z + 0), .ref (z + 1), .ref (z + 2), .ref (z + 3), .ref (z + 4), .ref (z + 5), .ref (z + 6), .ref (z + 7), .ref (z + 8), .ref (z + 9), .null, .int (iI 0), .null, .null, .null, .null, .int (iI 0), .int (iI 0), .null, .null, .null, .null, .null, .null, .null, .null] H := hO
  have hz : H.size = z + 10 := hz1.trans hz
  have hB := mB_k hB hbz hoq
  refine lv_aload_n hx hb dX8_init_84 rfl (lv_at hl 0 rfl) ?_
  refine z_bipush hx hb dX8_init_85 (by decide) ?_
  refine y_newa (atype := .int) (ty := .int) (cA := cI) (a := z + 10) (n := 10) (N := 10) hx hb rfl (Or.inl rfl) (hts (.arrayClass .int) (by decide +kernel)) hK 0 rfl hS rfl (by decide) (Nat.le_of_ble_eq_true rfl) (Nat.le_of_ble_eq_true rfl) hz dX8_init_87 (fun H hn hz1 hold hS => ?_)
  have hc0 := one_kept hc0 (hold b (Nat.lt_of_lt_of_le hbz (Nat.le_add_right z 10)))
  have hB := mB_s hB hn hold
  have hz : H.size = z + 11 := hz1
  refine y_putF (C := RX8) (T := TX8) (N := 27) (ref := "CoreShedModel") (ci := 8) (v := .ref (z + 10)) (ty := .array .int) hx hb hts hinX8 tyX8 tyX8_ok nmX8 hown hK hS hc0 (Or.inl rfl) rfl 11 (by decide) (hts _ (by decide +kernel)) rfl rfl hname rfl (by decide +kernel) rfl rfl (Nat.le_of_ble_eq_true rfl) dX8_init_89 (fun H locs hO hz1 hoq hS => ?_)
  have hc0 : OBJ D (b) 8 [.int (iI 0), .ref (z + 0), .ref (z + 1), .ref (z + 2), .ref (z + 3), .ref (z + 4), .ref (z + 5), .ref (z + 6), .ref (z + 7), .ref (z + 8), .ref (z + 9), .ref (z + 10), .int (iI 0), .null, .null, .null, .null, .int (iI 0), .int (iI 0), .null, .null, .null, .null, .null, .null, .null, .null] H := hO
  have hz : H.size = z + 11 := hz1.trans hz
  have hB := mB_k hB hbz hoq
  refine lv_aload_n hx hb dX8_init_92 rfl (lv_at hl 0 rfl) ?_
  refine z_bipush hx hb dX8_init_93 (by decide) ?_
  refine y_newa (atype := .int) (ty := .int) (cA := cI) (a := z + 11) (n := 30) (N := 30) hx hb rfl (Or.inl rfl) (hts (.arrayClass .int) (by decide +kernel)) hK 0 rfl hS rfl (by decide) (Nat.le_of_ble_eq_true rfl) (Nat.le_of_ble_eq_true rfl) hz dX8_init_95 (fun H hn hz1 hold hS => ?_)
  have hc0 := one_kept hc0 (hold b (Nat.lt_of_lt_of_le hbz (Nat.le_add_right z 11)))
  have hB := mB_s hB hn hold
  have hz : H.size = z + 12 := hz1
  refine y_putF (C := RX8) (T := TX8) (N := 27) (ref := "CoreShedModel") (ci := 8) (v := .ref (z + 11)) (ty := .array .int) hx hb hts hinX8 tyX8 tyX8_ok nmX8 hown hK hS hc0 (Or.inl rfl) rfl 13 (by decide) (hts _ (by decide +kernel)) rfl rfl hname rfl (by decide +kernel) rfl rfl (Nat.le_of_ble_eq_true rfl) dX8_init_97 (fun H locs hO hz1 hoq hS => ?_)
  have hc0 : OBJ D (b) 8 [.int (iI 0), .ref (z + 0), .ref (z + 1), .ref (z + 2), .ref (z + 3), .ref (z + 4), .ref (z + 5), .ref (z + 6), .ref (z + 7), .ref (z + 8), .ref (z + 9), .ref (z + 10), .int (iI 0), .ref (z + 11), .null, .null, .null, .int (iI 0), .int (iI 0), .null, .null, .null, .null, .null, .null, .null, .null] H := hO
  have hz : H.size = z + 12 := hz1.trans hz
  have hB := mB_k hB hbz hoq
  refine lv_aload_n hx hb dX8_init_100 rfl (lv_at hl 0 rfl) ?_
  refine z_bipush hx hb dX8_init_101 (by decide) ?_
  refine y_newa (atype := .int) (ty := .int) (cA := cI) (a := z + 12) (n := 30) (N := 30) hx hb rfl (Or.inl rfl) (hts (.arrayClass .int) (by decide +kernel)) hK 0 rfl hS rfl (by decide) (Nat.le_of_ble_eq_true rfl) (Nat.le_of_ble_eq_true rfl) hz dX8_init_103 (fun H hn hz1 hold hS => ?_)
  have hc0 := one_kept hc0 (hold b (Nat.lt_of_lt_of_le hbz (Nat.le_add_right z 12)))
  have hB := mB_s hB hn hold
  have hz : H.size = z + 13 := hz1
  refine y_putF (C := RX8) (T := TX8) (N := 27) (ref := "CoreShedModel") (ci := 8) (v := .ref (z + 12)) (ty := .array .int) hx hb hts hinX8 tyX8 tyX8_ok nmX8 hown hK hS hc0 (Or.inl rfl) rfl 14 (by decide) (hts _ (by decide +kernel)) rfl rfl hname rfl (by decide +kernel) rfl rfl (Nat.le_of_ble_eq_true rfl) dX8_init_105 (fun H locs hO hz1 hoq hS => ?_)
  have hc0 : OBJ D (b) 8 [.int (iI 0), .ref (z + 0), .ref (z + 1), .ref (z + 2), .ref (z + 3), .ref (z + 4), .ref (z + 5), .ref (z + 6), .ref (z + 7), .ref (z + 8), .ref (z + 9), .ref (z + 10), .int (iI 0), .ref (z + 11), .ref (z + 12), .null, .null, .int (iI 0), .int (iI 0), .null, .null, .null, .null, .null, .null, .null, .null] H := hO
  have hz : H.size = z + 13 := hz1.trans hz
  have hB := mB_k hB hbz hoq
  refine lv_aload_n hx hb dX8_init_108 rfl (lv_at hl 0 rfl) ?_
  refine z_bipush hx hb dX8_init_109 (by decide) ?_
  refine y_newa (atype := .int) (ty := .int) (cA := cI) (a := z + 13) (n := 30) (N := 30) hx hb rfl (Or.inl rfl) (hts (.arrayClass .int) (by decide +kernel)) hK 0 rfl hS rfl (by decide) (Nat.le_of_ble_eq_true rfl) (Nat.le_of_ble_eq_true rfl) hz dX8_init_111 (fun H hn hz1 hold hS => ?_)
  have hc0 := one_kept hc0 (hold b (Nat.lt_of_lt_of_le hbz (Nat.le_add_right z 13)))
  have hB := mB_s hB hn hold
  have hz : H.size = z + 14 := hz1
  refine y_putF (C := RX8) (T := TX8) (N := 27) (ref := "CoreShedModel") (ci := 8) (v := .ref (z + 13)) (ty := .array .int) hx hb hts hinX8 tyX8 tyX8_ok nmX8 hown hK hS hc0 (Or.inl rfl) rfl 15 (by decide) (hts _ (by decide +kernel)) rfl rfl hname rfl (by decide +kernel) rfl rfl (Nat.le_of_ble_eq_true rfl) dX8_init_113 (fun H locs hO hz1 hoq hS => ?_)
  have hc0 : OBJ D (b) 8 [.int (iI 0), .ref (z + 0), .ref (z + 1), .ref (z + 2), .ref (z + 3), .ref (z + 4), .ref (z + 5), .ref (z + 6), .ref (z + 7), .ref (z + 8), .ref (z + 9), .ref (z + 10), .int (iI 0), .ref (z + 11), .ref (z + 12), .ref (z + 13), .null, .int (iI 0), .int (iI 0), .null, .null, .null, .null, .null, .null, .null, .null] H := hO
  have hz : H.size = z + 14 := hz1.trans hz
  have hB := mB_k hB hbz hoq
  refine lv_aload_n hx hb dX8_init_116 rfl (lv_at hl 0 rfl) ?_
  refine z_bipush hx hb dX8_init_117 (by decide) ?_
  refine y_newa (atype := .int) (ty := .int) (cA := cI) (a := z + 14) (n := 30) (N := 30) hx hb rfl (Or.inl rfl) (hts (.arrayClass .int) (by decide +kernel)) hK 0 rfl hS rfl (by decide) (Nat.le_of_ble_eq_true rfl) (Nat.le_of_ble_eq_true rfl) hz dX8_init_119 (fun H hn hz1 hold hS => ?_)
  have hc0 := one_kept hc0 (hold b (Nat.lt_of_lt_of_le hbz (Nat.le_add_right z 14)))
  have hB := mB_s hB hn hold
  have hz : H.size = z + 15 := hz1
  refine y_putF (C := RX8) (T := TX8) (N := 27) (ref := "CoreShedModel") (ci := 8) (v := .ref (z + 14)) (ty := .array .int) hx hb hts hinX8 tyX8 tyX8_ok nmX8 hown hK hS hc0 (Or.inl rfl) rfl 16 (by decide) (hts _ (by decide +kernel)) rfl rfl hname rfl (by decide +kernel) rfl rfl (Nat.le_of_ble_eq_true rfl) dX8_init_121 (fun H locs hO hz1 hoq hS => ?_)
  have hc0 : OBJ D (b) 8 [.int (iI 0), .ref (z + 0), .ref (z + 1), .ref (z + 2), .ref (z + 3), .ref (z + 4), .ref (z + 5), .ref (z + 6), .ref (z + 7), .ref (z + 8), .ref (z + 9), .ref (z + 10), .int (iI 0), .ref (z + 11), .ref (z + 12), .ref (z + 13), .ref (z + 14), .int (iI 0), .int (iI 0), .null, .null, .null, .null, .null, .null, .null, .null] H := hO
  have hz : H.size = z + 15 := hz1.trans hz
  have hB := mB_k hB hbz hoq
  refine lv_aload_n hx hb dX8_init_124 rfl (lv_at hl 0 rfl) ?_
  refine z_bipush hx hb dX8_init_125 (by decide) ?_
  refine y_newa (atype := .int) (ty := .int) (cA := cI) (a := z + 15) (n := 6) (N := 6) hx hb rfl (Or.inl rfl) (hts (.arrayClass .int) (by decide +kernel)) hK 0 rfl hS rfl (by decide) (Nat.le_of_ble_eq_true rfl) (Nat.le_of_ble_eq_true rfl) hz dX8_init_127 (fun H hn hz1 hold hS => ?_)
  have hc0 := one_kept hc0 (hold b (Nat.lt_of_lt_of_le hbz (Nat.le_add_right z 15)))
  have hB := mB_s hB hn hold
  have hz : H.size = z + 16 := hz1
  refine y_putF (C := RX8) (T := TX8) (N := 27) (ref := "CoreShedModel") (ci := 8) (v := .ref (z + 15)) (ty := .array .int) hx hb hts hinX8 tyX8 tyX8_ok nmX8 hown hK hS hc0 (Or.inl rfl) rfl 19 (by decide) (hts _ (by decide +kernel)) rfl rfl hname rfl (by decide +kernel) rfl rfl (Nat.le_of_ble_eq_true rfl) dX8_init_129 (fun H locs hO hz1 hoq hS => ?_)
  have hc0 : OBJ D (b) 8 [.int (iI 0), .ref (z + 0), .ref (z + 1), .ref (z + 2), .ref (z + 3), .ref (z + 4), .ref (z + 5), .ref (z + 6), .ref (z + 7), .ref (z + 8), .ref (z + 9), .ref (z + 10), .int (iI 0), .ref (z + 11), .ref (z + 12), .ref (z + 13), .ref (z + 14), .int (iI 0), .int (iI 0), .ref (z + 15), .null, .null, .null, .null, .null, .null, .null] H := hO
  have hz : H.size = z + 16 := hz1.trans hz
  have hB := mB_k hB hbz hoq
  refine lv_aload_n hx hb dX8_init_132 rfl (lv_at hl 0 rfl) ?_
  refine z_bipush hx hb dX8_init_133 (by decide) ?_
  refine y_newa (atype := .int) (ty := .int) (cA := cI) (a := z + 16) (n := 96) (N := 96) hx hb rfl (Or.inl rfl) (hts (.arrayClass .int) (by decide +kernel)) hK 0 rfl hS rfl (by decide) (Nat.le_of_ble_eq_true rfl) (Nat.le_of_ble_eq_true rfl) hz dX8_init_135 (fun H hn hz1 hold hS => ?_)
  have hc0 := one_kept hc0 (hold b (Nat.lt_of_lt_of_le hbz (Nat.le_add_right z 16)))
  have hB := mB_s hB hn hold
  have hz : H.size = z + 17 := hz1
  refine y_putF (C := RX8) (T := TX8) (N := 27) (ref := "CoreShedModel") (ci := 8) (v := .ref (z + 16)) (ty := .array .int) hx hb hts hinX8 tyX8 tyX8_ok nmX8 hown hK hS hc0 (Or.inl rfl) rfl 20 (by decide) (hts _ (by decide +kernel)) rfl rfl hname rfl (by decide +kernel) rfl rfl (Nat.le_of_ble_eq_true rfl) dX8_init_137 (fun H locs hO hz1 hoq hS => ?_)
  have hc0 : OBJ D (b) 8 [.int (iI 0), .ref (z + 0), .ref (z + 1), .ref (z + 2), .ref (z + 3), .ref (z + 4), .ref (z + 5), .ref (z + 6), .ref (z + 7), .ref (z + 8), .ref (z + 9), .ref (z + 10), .int (iI 0), .ref (z + 11), .ref (z + 12), .ref (z + 13), .ref (z + 14), .int (iI 0), .int (iI 0), .ref (z + 15), .ref (z + 16), .null, .null, .null, .null, .null, .null] H := hO
  have hz : H.size = z + 17 := hz1.trans hz
  have hB := mB_k hB hbz hoq
  refine lv_aload_n hx hb dX8_init_140 rfl (lv_at hl 0 rfl) ?_
  refine z_bipush hx hb dX8_init_141 (by decide) ?_
  refine y_newa (atype := .int) (ty := .int) (cA := cI) (a := z + 17) (n := 96) (N := 96) hx hb rfl (Or.inl rfl) (hts (.arrayClass .int) (by decide +kernel)) hK 0 rfl hS rfl (by decide) (Nat.le_of_ble_eq_true rfl) (Nat.le_of_ble_eq_true rfl) hz dX8_init_143 (fun H hn hz1 hold hS => ?_)
  have hc0 := one_kept hc0 (hold b (Nat.lt_of_lt_of_le hbz (Nat.le_add_right z 17)))
  have hB := mB_s hB hn hold
  have hz : H.size = z + 18 := hz1
  refine y_putF (C := RX8) (T := TX8) (N := 27) (ref := "CoreShedModel") (ci := 8) (v := .ref (z + 17)) (ty := .array .int) hx hb hts hinX8 tyX8 tyX8_ok nmX8 hown hK hS hc0 (Or.inl rfl) rfl 21 (by decide) (hts _ (by decide +kernel)) rfl rfl hname rfl (by decide +kernel) rfl rfl (Nat.le_of_ble_eq_true rfl) dX8_init_145 (fun H locs hO hz1 hoq hS => ?_)
  have hc0 : OBJ D (b) 8 [.int (iI 0), .ref (z + 0), .ref (z + 1), .ref (z + 2), .ref (z + 3), .ref (z + 4), .ref (z + 5), .ref (z + 6), .ref (z + 7), .ref (z + 8), .ref (z + 9), .ref (z + 10), .int (iI 0), .ref (z + 11), .ref (z + 12), .ref (z + 13), .ref (z + 14), .int (iI 0), .int (iI 0), .ref (z + 15), .ref (z + 16), .ref (z + 17), .null, .null, .null, .null, .null] H := hO
  have hz : H.size = z + 18 := hz1.trans hz
  have hB := mB_k hB hbz hoq
  refine lv_aload_n hx hb dX8_init_148 rfl (lv_at hl 0 rfl) ?_
  refine z_bipush hx hb dX8_init_149 (by decide) ?_
  refine y_newa (atype := .int) (ty := .int) (cA := cI) (a := z + 18) (n := 96) (N := 96) hx hb rfl (Or.inl rfl) (hts (.arrayClass .int) (by decide +kernel)) hK 0 rfl hS rfl (by decide) (Nat.le_of_ble_eq_true rfl) (Nat.le_of_ble_eq_true rfl) hz dX8_init_151 (fun H hn hz1 hold hS => ?_)
  have hc0 := one_kept hc0 (hold b (Nat.lt_of_lt_of_le hbz (Nat.le_add_right z 18)))
  have hB := mB_s hB hn hold
  have hz : H.size = z + 19 := hz1
  refine y_putF (C := RX8) (T := TX8) (N := 27) (ref := "CoreShedModel") (ci := 8) (v := .ref (z + 18)) (ty := .array .int) hx hb hts hinX8 tyX8 tyX8_ok nmX8 hown hK hS hc0 (Or.inl rfl) rfl 22 (by decide) (hts _ (by decide +kernel)) rfl rfl hname rfl (by decide +kernel) rfl rfl (Nat.le_of_ble_eq_true rfl) dX8_init_153 (fun H locs hO hz1 hoq hS => ?_)
  have hc0 : OBJ D (b) 8 [.int (iI 0), .ref (z + 0), .ref (z + 1), .ref (z + 2), .ref (z + 3), .ref (z + 4), .ref (z + 5), .ref (z + 6), .ref (z + 7), .ref (z + 8), .ref (z + 9), .ref (z + 10), .int (iI 0), .ref (z + 11), .ref (z + 12), .ref (z + 13), .ref (z + 14), .int (iI 0), .int (iI 0), .ref (z + 15), .ref (z + 16), .ref (z + 17), .ref (z + 18), .null, .null, .null, .null] H := hO
  have hz : H.size = z + 19 := hz1.trans hz
  have hB := mB_k hB hbz hoq
  refine lv_aload_n hx hb dX8_init_156 rfl (lv_at hl 0 rfl) ?_
  refine z_bipush hx hb dX8_init_157 (by decide) ?_
  refine y_newa (atype := .boolean) (ty := .boolean) (cA := cZ) (a := z + 19) (n := 96) (N := 96) hx hb rfl (Or.inr rfl) (hts (.arrayClass .boolean) (by decide +kernel)) hK 1 rfl hS rfl (by decide) (Nat.le_of_ble_eq_true rfl) (Nat.le_of_ble_eq_true rfl) hz dX8_init_159 (fun H hn hz1 hold hS => ?_)
  have hc0 := one_kept hc0 (hold b (Nat.lt_of_lt_of_le hbz (Nat.le_add_right z 19)))
  have hB := mB_s hB hn hold
  have hz : H.size = z + 20 := hz1
  refine y_putF (C := RX8) (T := TX8) (N := 27) (ref := "CoreShedModel") (ci := 8) (v := .ref (z + 19)) (ty := .array .boolean) hx hb hts hinX8 tyX8 tyX8_ok nmX8 hown hK hS hc0 (Or.inl rfl) rfl 23 (by decide) (hts _ (by decide +kernel)) rfl rfl hname rfl (by decide +kernel) rfl rfl (Nat.le_of_ble_eq_true rfl) dX8_init_161 (fun H locs hO hz1 hoq hS => ?_)
  have hc0 : OBJ D (b) 8 [.int (iI 0), .ref (z + 0), .ref (z + 1), .ref (z + 2), .ref (z + 3), .ref (z + 4), .ref (z + 5), .ref (z + 6), .ref (z + 7), .ref (z + 8), .ref (z + 9), .ref (z + 10), .int (iI 0), .ref (z + 11), .ref (z + 12), .ref (z + 13), .ref (z + 14), .int (iI 0), .int (iI 0), .ref (z + 15), .ref (z + 16), .ref (z + 17), .ref (z + 18), .ref (z + 19), .null, .null, .null] H := hO
  have hz : H.size = z + 20 := hz1.trans hz
  have hB := mB_k hB hbz hoq
  refine lv_aload_n hx hb dX8_init_164 rfl (lv_at hl 0 rfl) ?_
  refine z_bipush hx hb dX8_init_165 (by decide) ?_
  refine y_newa (atype := .int) (ty := .int) (cA := cI) (a := z + 20) (n := 96) (N := 96) hx hb rfl (Or.inl rfl) (hts (.arrayClass .int) (by decide +kernel)) hK 0 rfl hS rfl (by decide) (Nat.le_of_ble_eq_true rfl) (Nat.le_of_ble_eq_true rfl) hz dX8_init_167 (fun H hn hz1 hold hS => ?_)
  have hc0 := one_kept hc0 (hold b (Nat.lt_of_lt_of_le hbz (Nat.le_add_right z 20)))
  have hB := mB_s hB hn hold
  have hz : H.size = z + 21 := hz1
  refine y_putF (C := RX8) (T := TX8) (N := 27) (ref := "CoreShedModel") (ci := 8) (v := .ref (z + 20)) (ty := .array .int) hx hb hts hinX8 tyX8 tyX8_ok nmX8 hown hK hS hc0 (Or.inl rfl) rfl 24 (by decide) (hts _ (by decide +kernel)) rfl rfl hname rfl (by decide +kernel) rfl rfl (Nat.le_of_ble_eq_true rfl) dX8_init_169 (fun H locs hO hz1 hoq hS => ?_)
  have hc0 : OBJ D (b) 8 [.int (iI 0), .ref (z + 0), .ref (z + 1), .ref (z + 2), .ref (z + 3), .ref (z + 4), .ref (z + 5), .ref (z + 6), .ref (z + 7), .ref (z + 8), .ref (z + 9), .ref (z + 10), .int (iI 0), .ref (z + 11), .ref (z + 12), .ref (z + 13), .ref (z + 14), .int (iI 0), .int (iI 0), .ref (z + 15), .ref (z + 16), .ref (z + 17), .ref (z + 18), .ref (z + 19), .ref (z + 20), .null, .null] H := hO
  have hz : H.size = z + 21 := hz1.trans hz
  have hB := mB_k hB hbz hoq
  refine lv_aload_n hx hb dX8_init_172 rfl (lv_at hl 0 rfl) ?_
  refine z_iconst hx hb dX8_init_173 ?_
  refine y_newa (atype := .int) (ty := .int) (cA := cI) (a := z + 21) (n := 2) (N := 2) hx hb rfl (Or.inl rfl) (hts (.arrayClass .int) (by decide +kernel)) hK 0 rfl hS rfl (by decide) (Nat.le_of_ble_eq_true rfl) (Nat.le_of_ble_eq_true rfl) hz dX8_init_174 (fun H hn hz1 hold hS => ?_)
  have hc0 := one_kept hc0 (hold b (Nat.lt_of_lt_of_le hbz (Nat.le_add_right z 21)))
  have hB := mB_s hB hn hold
  have hz : H.size = z + 22 := hz1
  refine y_putF (C := RX8) (T := TX8) (N := 27) (ref := "CoreShedModel") (ci := 8) (v := .ref (z + 21)) (ty := .array .int) hx hb hts hinX8 tyX8 tyX8_ok nmX8 hown hK hS hc0 (Or.inl rfl) rfl 25 (by decide) (hts _ (by decide +kernel)) rfl rfl hname rfl (by decide +kernel) rfl rfl (Nat.le_of_ble_eq_true rfl) dX8_init_176 (fun H locs hO hz1 hoq hS => ?_)
  have hc0 : OBJ D (b) 8 [.int (iI 0), .ref (z + 0), .ref (z + 1), .ref (z + 2), .ref (z + 3), .ref (z + 4), .ref (z + 5), .ref (z + 6), .ref (z + 7), .ref (z + 8), .ref (z + 9), .ref (z + 10), .int (iI 0), .ref (z + 11), .ref (z + 12), .ref (z + 13), .ref (z + 14), .int (iI 0), .int (iI 0), .ref (z + 15), .ref (z + 16), .ref (z + 17), .ref (z + 18), .ref (z + 19), .ref (z + 20), .ref (z + 21), .null] H := hO
  have hz : H.size = z + 22 := hz1.trans hz
  have hB := mB_k hB hbz hoq
  refine lv_aload_n hx hb dX8_init_179 rfl (lv_at hl 0 rfl) ?_
  refine z_sipush hx hb dX8_init_180 (by decide) ?_
  refine y_newa (atype := .int) (ty := .int) (cA := cI) (a := z + 22) (n := 441) (N := 441) hx hb rfl (Or.inl rfl) (hts (.arrayClass .int) (by decide +kernel)) hK 0 rfl hS rfl (by decide) (Nat.le_of_ble_eq_true rfl) (Nat.le_of_ble_eq_true rfl) hz dX8_init_183 (fun H hn hz1 hold hS => ?_)
  have hc0 := one_kept hc0 (hold b (Nat.lt_of_lt_of_le hbz (Nat.le_add_right z 22)))
  have hB := mB_s hB hn hold
  have hz : H.size = z + 23 := hz1
  refine y_putF (C := RX8) (T := TX8) (N := 27) (ref := "CoreShedModel") (ci := 8) (v := .ref (z + 22)) (ty := .array .int) hx hb hts hinX8 tyX8 tyX8_ok nmX8 hown hK hS hc0 (Or.inl rfl) rfl 26 (by decide) (hts _ (by decide +kernel)) rfl rfl hname rfl (by decide +kernel) rfl rfl (Nat.le_of_ble_eq_true rfl) dX8_init_185 (fun H locs hO hz1 hoq hS => ?_)
  have hc0 : OBJ D (b) 8 [.int (iI 0), .ref (z + 0), .ref (z + 1), .ref (z + 2), .ref (z + 3), .ref (z + 4), .ref (z + 5), .ref (z + 6), .ref (z + 7), .ref (z + 8), .ref (z + 9), .ref (z + 10), .int (iI 0), .ref (z + 11), .ref (z + 12), .ref (z + 13), .ref (z + 14), .int (iI 0), .int (iI 0), .ref (z + 15), .ref (z + 16), .ref (z + 17), .ref (z + 18), .ref (z + 19), .ref (z + 20), .ref (z + 21), .ref (z + 22)] H := hO
  have hz : H.size = z + 23 := hz1.trans hz
  have hB := mB_k hB hbz hoq
  refine z_iconst hx hb dX8_init_188 ?_
  refine lv_istore_n (lv' := [(1, .int (iI (0))), (0, .ref (b))]) hx hb dX8_init_189 rfl hl (by decide) rfl (fun ls hl => ?_)
  refine lv_iload_n hx hb dX8_init_190 rfl (lv_at hl 0 rfl) ?_
  refine z_bipush hx hb dX8_init_191 (by decide) ?_
  refine z_icmp_ge (tgt := 209) hx hb (by omega) (by omega) dX8_init_193 (by decide) (fun c1 => ?_) (fun c1 => ?_)
  · exfalso; omega
  · refine lv_aload_n hx hb dX8_init_196 rfl (lv_at hl 1 rfl) ?_
    refine y_get (C := RX8) (T := TX8) (N := 27) (ref := "CoreShedModel") (ci := 8) hx hb hts hinX8 hown hK hc0 rfl 11 (by decide) (hts _ (by decide +kernel)) rfl (v := .ref (z + 10)) rfl dX8_init_197 ?_
    refine lv_iload_n hx hb dX8_init_200 rfl (lv_at hl 0 rfl) ?_
    refine lv_iload_n hx hb dX8_init_201 rfl (lv_at hl 0 rfl) ?_
    refine y_iast (j := 0) (v := 0) hx hb hK hS 0 (hB 10 (by decide)) (Or.inr (Nat.le_add_right z 10)) rfl rfl (by decide) (by decide) dX8_init_202 (fun H locs hO hz1 hoq hS => ?_)
    have hB := mB_put (j := 10) hB hO hoq
    have hc0 := one_kept hc0 (hoq b (Nat.ne_of_lt (Nat.lt_of_lt_of_le hbz (Nat.le_add_right z 10))))
    have hz : H.size = z + 23 := hz1.trans hz
    refine z_iinc (k := 0) (lv' := [(1, .int (iI (1))), (0, .ref (b))]) hx hb dX8_init_203 hl rfl (by decide) rfl (fun ls hl => ?_)
    refine lv_goto (tgt := 190) hx hb dX8_init_206 (by decide) ?_
    refine lv_iload_n hx hb dX8_init_190 rfl (lv_at hl 0 rfl) ?_
    refine z_bipush hx hb dX8_init_191 (by decide) ?_
    refine z_icmp_ge (tgt := 209) hx hb (by omega) (by omega) dX8_init_193 (by decide) (fun c2 => ?_) (fun c2 => ?_)
    · exfalso; omega
    · refine lv_aload_n hx hb dX8_init_196 rfl (lv_at hl 1 rfl) ?_
      refine y_get (C := RX8) (T := TX8) (N := 27) (ref := "CoreShedModel") (ci := 8) hx hb hts hinX8 hown hK hc0 rfl 11 (by decide) (hts _ (by decide +kernel)) rfl (v := .ref (z + 10)) rfl dX8_init_197 ?_
      refine lv_iload_n hx hb dX8_init_200 rfl (lv_at hl 0 rfl) ?_
      refine lv_iload_n hx hb dX8_init_201 rfl (lv_at hl 0 rfl) ?_
      refine y_iast (j := 1) (v := 1) hx hb hK hS 0 (hB 10 (by decide)) (Or.inr (Nat.le_add_right z 10)) rfl rfl (by decide) (by decide) dX8_init_202 (fun H locs hO hz1 hoq hS => ?_)
      have hB := mB_put (j := 10) hB hO hoq
      have hc0 := one_kept hc0 (hoq b (Nat.ne_of_lt (Nat.lt_of_lt_of_le hbz (Nat.le_add_right z 10))))
      have hz : H.size = z + 23 := hz1.trans hz
      refine z_iinc (k := 0) (lv' := [(1, .int (iI (2))), (0, .ref (b))]) hx hb dX8_init_203 hl rfl (by decide) rfl (fun ls hl => ?_)
      refine lv_goto (tgt := 190) hx hb dX8_init_206 (by decide) ?_
      refine lv_iload_n hx hb dX8_init_190 rfl (lv_at hl 0 rfl) ?_
      refine z_bipush hx hb dX8_init_191 (by decide) ?_
      refine z_icmp_ge (tgt := 209) hx hb (by omega) (by omega) dX8_init_193 (by decide) (fun c3 => ?_) (fun c3 => ?_)
      · exfalso; omega
      · refine lv_aload_n hx hb dX8_init_196 rfl (lv_at hl 1 rfl) ?_
        refine y_get (C := RX8) (T := TX8) (N := 27) (ref := "CoreShedModel") (ci := 8) hx hb hts hinX8 hown hK hc0 rfl 11 (by decide) (hts _ (by decide +kernel)) rfl (v := .ref (z + 10)) rfl dX8_init_197 ?_
        refine lv_iload_n hx hb dX8_init_200 rfl (lv_at hl 0 rfl) ?_
        refine lv_iload_n hx hb dX8_init_201 rfl (lv_at hl 0 rfl) ?_
        refine y_iast (j := 2) (v := 2) hx hb hK hS 0 (hB 10 (by decide)) (Or.inr (Nat.le_add_right z 10)) rfl rfl (by decide) (by decide) dX8_init_202 (fun H locs hO hz1 hoq hS => ?_)
        have hB := mB_put (j := 10) hB hO hoq
        have hc0 := one_kept hc0 (hoq b (Nat.ne_of_lt (Nat.lt_of_lt_of_le hbz (Nat.le_add_right z 10))))
        have hz : H.size = z + 23 := hz1.trans hz
        refine z_iinc (k := 0) (lv' := [(1, .int (iI (3))), (0, .ref (b))]) hx hb dX8_init_203 hl rfl (by decide) rfl (fun ls hl => ?_)
        refine lv_goto (tgt := 190) hx hb dX8_init_206 (by decide) ?_
        refine lv_iload_n hx hb dX8_init_190 rfl (lv_at hl 0 rfl) ?_
        refine z_bipush hx hb dX8_init_191 (by decide) ?_
        refine z_icmp_ge (tgt := 209) hx hb (by omega) (by omega) dX8_init_193 (by decide) (fun c4 => ?_) (fun c4 => ?_)
        · exfalso; omega
        · refine lv_aload_n hx hb dX8_init_196 rfl (lv_at hl 1 rfl) ?_
          refine y_get (C := RX8) (T := TX8) (N := 27) (ref := "CoreShedModel") (ci := 8) hx hb hts hinX8 hown hK hc0 rfl 11 (by decide) (hts _ (by decide +kernel)) rfl (v := .ref (z + 10)) rfl dX8_init_197 ?_
          refine lv_iload_n hx hb dX8_init_200 rfl (lv_at hl 0 rfl) ?_
          refine lv_iload_n hx hb dX8_init_201 rfl (lv_at hl 0 rfl) ?_
          refine y_iast (j := 3) (v := 3) hx hb hK hS 0 (hB 10 (by decide)) (Or.inr (Nat.le_add_right z 10)) rfl rfl (by decide) (by decide) dX8_init_202 (fun H locs hO hz1 hoq hS => ?_)
          have hB := mB_put (j := 10) hB hO hoq
          have hc0 := one_kept hc0 (hoq b (Nat.ne_of_lt (Nat.lt_of_lt_of_le hbz (Nat.le_add_right z 10))))
          have hz : H.size = z + 23 := hz1.trans hz
          refine z_iinc (k := 0) (lv' := [(1, .int (iI (4))), (0, .ref (b))]) hx hb dX8_init_203 hl rfl (by decide) rfl (fun ls hl => ?_)
          refine lv_goto (tgt := 190) hx hb dX8_init_206 (by decide) ?_
          refine lv_iload_n hx hb dX8_init_190 rfl (lv_at hl 0 rfl) ?_
          refine z_bipush hx hb dX8_init_191 (by decide) ?_
          refine z_icmp_ge (tgt := 209) hx hb (by omega) (by omega) dX8_init_193 (by decide) (fun c5 => ?_) (fun c5 => ?_)
          · exfalso; omega
          · refine lv_aload_n hx hb dX8_init_196 rfl (lv_at hl 1 rfl) ?_
            refine y_get (C := RX8) (T := TX8) (N := 27) (ref := "CoreShedModel") (ci := 8) hx hb hts hinX8 hown hK hc0 rfl 11 (by decide) (hts _ (by decide +kernel)) rfl (v := .ref (z + 10)) rfl dX8_init_197 ?_
            refine lv_iload_n hx hb dX8_init_200 rfl (lv_at hl 0 rfl) ?_
            refine lv_iload_n hx hb dX8_init_201 rfl (lv_at hl 0 rfl) ?_
            refine y_iast (j := 4) (v := 4) hx hb hK hS 0 (hB 10 (by decide)) (Or.inr (Nat.le_add_right z 10)) rfl rfl (by decide) (by decide) dX8_init_202 (fun H locs hO hz1 hoq hS => ?_)
            have hB := mB_put (j := 10) hB hO hoq
            have hc0 := one_kept hc0 (hoq b (Nat.ne_of_lt (Nat.lt_of_lt_of_le hbz (Nat.le_add_right z 10))))
            have hz : H.size = z + 23 := hz1.trans hz
            refine z_iinc (k := 0) (lv' := [(1, .int (iI (5))), (0, .ref (b))]) hx hb dX8_init_203 hl rfl (by decide) rfl (fun ls hl => ?_)
            refine lv_goto (tgt := 190) hx hb dX8_init_206 (by decide) ?_
            refine lv_iload_n hx hb dX8_init_190 rfl (lv_at hl 0 rfl) ?_
            refine z_bipush hx hb dX8_init_191 (by decide) ?_
            refine z_icmp_ge (tgt := 209) hx hb (by omega) (by omega) dX8_init_193 (by decide) (fun c6 => ?_) (fun c6 => ?_)
            · exfalso; omega
            · refine lv_aload_n hx hb dX8_init_196 rfl (lv_at hl 1 rfl) ?_
              refine y_get (C := RX8) (T := TX8) (N := 27) (ref := "CoreShedModel") (ci := 8) hx hb hts hinX8 hown hK hc0 rfl 11 (by decide) (hts _ (by decide +kernel)) rfl (v := .ref (z + 10)) rfl dX8_init_197 ?_
              refine lv_iload_n hx hb dX8_init_200 rfl (lv_at hl 0 rfl) ?_
              refine lv_iload_n hx hb dX8_init_201 rfl (lv_at hl 0 rfl) ?_
              refine y_iast (j := 5) (v := 5) hx hb hK hS 0 (hB 10 (by decide)) (Or.inr (Nat.le_add_right z 10)) rfl rfl (by decide) (by decide) dX8_init_202 (fun H locs hO hz1 hoq hS => ?_)
              have hB := mB_put (j := 10) hB hO hoq
              have hc0 := one_kept hc0 (hoq b (Nat.ne_of_lt (Nat.lt_of_lt_of_le hbz (Nat.le_add_right z 10))))
              have hz : H.size = z + 23 := hz1.trans hz
              refine z_iinc (k := 0) (lv' := [(1, .int (iI (6))), (0, .ref (b))]) hx hb dX8_init_203 hl rfl (by decide) rfl (fun ls hl => ?_)
              refine lv_goto (tgt := 190) hx hb dX8_init_206 (by decide) ?_
              refine lv_iload_n hx hb dX8_init_190 rfl (lv_at hl 0 rfl) ?_
              refine z_bipush hx hb dX8_init_191 (by decide) ?_
              refine z_icmp_ge (tgt := 209) hx hb (by omega) (by omega) dX8_init_193 (by decide) (fun c7 => ?_) (fun c7 => ?_)
              · exfalso; omega
              · refine lv_aload_n hx hb dX8_init_196 rfl (lv_at hl 1 rfl) ?_
                refine y_get (C := RX8) (T := TX8) (N := 27) (ref := "CoreShedModel") (ci := 8) hx hb hts hinX8 hown hK hc0 rfl 11 (by decide) (hts _ (by decide +kernel)) rfl (v := .ref (z + 10)) rfl dX8_init_197 ?_
                refine lv_iload_n hx hb dX8_init_200 rfl (lv_at hl 0 rfl) ?_
                refine lv_iload_n hx hb dX8_init_201 rfl (lv_at hl 0 rfl) ?_
                refine y_iast (j := 6) (v := 6) hx hb hK hS 0 (hB 10 (by decide)) (Or.inr (Nat.le_add_right z 10)) rfl rfl (by decide) (by decide) dX8_init_202 (fun H locs hO hz1 hoq hS => ?_)
                have hB := mB_put (j := 10) hB hO hoq
                have hc0 := one_kept hc0 (hoq b (Nat.ne_of_lt (Nat.lt_of_lt_of_le hbz (Nat.le_add_right z 10))))
                have hz : H.size = z + 23 := hz1.trans hz
                refine z_iinc (k := 0) (lv' := [(1, .int (iI (7))), (0, .ref (b))]) hx hb dX8_init_203 hl rfl (by decide) rfl (fun ls hl => ?_)
                refine lv_goto (tgt := 190) hx hb dX8_init_206 (by decide) ?_
                refine lv_iload_n hx hb dX8_init_190 rfl (lv_at hl 0 rfl) ?_
                refine z_bipush hx hb dX8_init_191 (by decide) ?_
                refine z_icmp_ge (tgt := 209) hx hb (by omega) (by omega) dX8_init_193 (by decide) (fun c8 => ?_) (fun c8 => ?_)
                · exfalso; omega
                · refine lv_aload_n hx hb dX8_init_196 rfl (lv_at hl 1 rfl) ?_
                  refine y_get (C := RX8) (T := TX8) (N := 27) (ref := "CoreShedModel") (ci := 8) hx hb hts hinX8 hown hK hc0 rfl 11 (by decide) (hts _ (by decide +kernel)) rfl (v := .ref (z + 10)) rfl dX8_init_197 ?_
                  refine lv_iload_n hx hb dX8_init_200 rfl (lv_at hl 0 rfl) ?_
                  refine lv_iload_n hx hb dX8_init_201 rfl (lv_at hl 0 rfl) ?_
                  refine y_iast (j := 7) (v := 7) hx hb hK hS 0 (hB 10 (by decide)) (Or.inr (Nat.le_add_right z 10)) rfl rfl (by decide) (by decide) dX8_init_202 (fun H locs hO hz1 hoq hS => ?_)
                  have hB := mB_put (j := 10) hB hO hoq
                  have hc0 := one_kept hc0 (hoq b (Nat.ne_of_lt (Nat.lt_of_lt_of_le hbz (Nat.le_add_right z 10))))
                  have hz : H.size = z + 23 := hz1.trans hz
                  refine z_iinc (k := 0) (lv' := [(1, .int (iI (8))), (0, .ref (b))]) hx hb dX8_init_203 hl rfl (by decide) rfl (fun ls hl => ?_)
                  refine lv_goto (tgt := 190) hx hb dX8_init_206 (by decide) ?_
                  refine lv_iload_n hx hb dX8_init_190 rfl (lv_at hl 0 rfl) ?_
                  refine z_bipush hx hb dX8_init_191 (by decide) ?_
                  refine z_icmp_ge (tgt := 209) hx hb (by omega) (by omega) dX8_init_193 (by decide) (fun c9 => ?_) (fun c9 => ?_)
                  · exfalso; omega
                  · refine lv_aload_n hx hb dX8_init_196 rfl (lv_at hl 1 rfl) ?_
                    refine y_get (C := RX8) (T := TX8) (N := 27) (ref := "CoreShedModel") (ci := 8) hx hb hts hinX8 hown hK hc0 rfl 11 (by decide) (hts _ (by decide +kernel)) rfl (v := .ref (z + 10)) rfl dX8_init_197 ?_
                    refine lv_iload_n hx hb dX8_init_200 rfl (lv_at hl 0 rfl) ?_
                    refine lv_iload_n hx hb dX8_init_201 rfl (lv_at hl 0 rfl) ?_
                    refine y_iast (j := 8) (v := 8) hx hb hK hS 0 (hB 10 (by decide)) (Or.inr (Nat.le_add_right z 10)) rfl rfl (by decide) (by decide) dX8_init_202 (fun H locs hO hz1 hoq hS => ?_)
                    have hB := mB_put (j := 10) hB hO hoq
                    have hc0 := one_kept hc0 (hoq b (Nat.ne_of_lt (Nat.lt_of_lt_of_le hbz (Nat.le_add_right z 10))))
                    have hz : H.size = z + 23 := hz1.trans hz
                    refine z_iinc (k := 0) (lv' := [(1, .int (iI (9))), (0, .ref (b))]) hx hb dX8_init_203 hl rfl (by decide) rfl (fun ls hl => ?_)
                    refine lv_goto (tgt := 190) hx hb dX8_init_206 (by decide) ?_
                    refine lv_iload_n hx hb dX8_init_190 rfl (lv_at hl 0 rfl) ?_
                    refine z_bipush hx hb dX8_init_191 (by decide) ?_
                    refine z_icmp_ge (tgt := 209) hx hb (by omega) (by omega) dX8_init_193 (by decide) (fun c10 => ?_) (fun c10 => ?_)
                    · exfalso; omega
                    · refine lv_aload_n hx hb dX8_init_196 rfl (lv_at hl 1 rfl) ?_
                      refine y_get (C := RX8) (T := TX8) (N := 27) (ref := "CoreShedModel") (ci := 8) hx hb hts hinX8 hown hK hc0 rfl 11 (by decide) (hts _ (by decide +kernel)) rfl (v := .ref (z + 10)) rfl dX8_init_197 ?_
                      refine lv_iload_n hx hb dX8_init_200 rfl (lv_at hl 0 rfl) ?_
                      refine lv_iload_n hx hb dX8_init_201 rfl (lv_at hl 0 rfl) ?_
                      refine y_iast (j := 9) (v := 9) hx hb hK hS 0 (hB 10 (by decide)) (Or.inr (Nat.le_add_right z 10)) rfl rfl (by decide) (by decide) dX8_init_202 (fun H locs hO hz1 hoq hS => ?_)
                      have hB := mB_put (j := 10) hB hO hoq
                      have hc0 := one_kept hc0 (hoq b (Nat.ne_of_lt (Nat.lt_of_lt_of_le hbz (Nat.le_add_right z 10))))
                      have hz : H.size = z + 23 := hz1.trans hz
                      refine z_iinc (k := 0) (lv' := [(1, .int (iI (10))), (0, .ref (b))]) hx hb dX8_init_203 hl rfl (by decide) rfl (fun ls hl => ?_)
                      refine lv_goto (tgt := 190) hx hb dX8_init_206 (by decide) ?_
                      refine lv_iload_n hx hb dX8_init_190 rfl (lv_at hl 0 rfl) ?_
                      refine z_bipush hx hb dX8_init_191 (by decide) ?_
                      refine z_icmp_ge (tgt := 209) hx hb (by omega) (by omega) dX8_init_193 (by decide) (fun c11 => ?_) (fun c11 => ?_)
                      · refine lv_aload_n hx hb dX8_init_209 rfl (lv_at hl 1 rfl) ?_
                        refine y_get (C := RX8) (T := TX8) (N := 27) (ref := "CoreShedModel") (ci := 8) hx hb hts hinX8 hown hK hc0 rfl 25 (by decide) (hts _ (by decide +kernel)) rfl (v := .ref (z + 21)) rfl dX8_init_210 ?_
                        refine z_iconst hx hb dX8_init_213 ?_
                        refine z_iconst hx hb dX8_init_214 ?_
                        refine y_iast (j := 0) (v := 5) hx hb hK hS 0 (hB 21 (by decide)) (Or.inr (Nat.le_add_right z 21)) rfl rfl (by decide) (by decide) dX8_init_215 (fun H locs hO hz1 hoq hS => ?_)
                        have hB := mB_put (j := 21) hB hO hoq
                        have hc0 := one_kept hc0 (hoq b (Nat.ne_of_lt (Nat.lt_of_lt_of_le hbz (Nat.le_add_right z 21))))
                        have hz : H.size = z + 23 := hz1.trans hz
                        refine lv_aload_n hx hb dX8_init_216 rfl (lv_at hl 1 rfl) ?_
                        refine y_get (C := RX8) (T := TX8) (N := 27) (ref := "CoreShedModel") (ci := 8) hx hb hts hinX8 hown hK hc0 rfl 25 (by decide) (hts _ (by decide +kernel)) rfl (v := .ref (z + 21)) rfl dX8_init_217 ?_
                        refine z_iconst hx hb dX8_init_220 ?_
                        refine z_bipush hx hb dX8_init_221 (by decide) ?_
                        refine y_iast (j := 1) (v := 100) hx hb hK hS 0 (hB 21 (by decide)) (Or.inr (Nat.le_add_right z 21)) rfl rfl (by decide) (by decide) dX8_init_223 (fun H locs hO hz1 hoq hS => ?_)
                        have hB := mB_put (j := 21) hB hO hoq
                        have hc0 := one_kept hc0 (hoq b (Nat.ne_of_lt (Nat.lt_of_lt_of_le hbz (Nat.le_add_right z 21))))
                        have hz : H.size = z + 23 := hz1.trans hz
                        exact n_vret hx hb hr hlocks ⟨hz, m_made hbz hc0 hB⟩ hS (Nat.le_of_ble_eq_true rfl) (Nat.le_of_ble_eq_true rfl) dX8_init_224
                      · exfalso; omega
