theorem cm_comm (a b u v : Int) : cm a b u v = cm u v a b := by unfold cm; omega
theorem exs_t {f : Nat → Bool} {j : Nat} (hj : f j = true) : ∀ {n : Nat}, j < n → exs f n = true
  | 0, h => absurd h (Nat.not_lt_zero j)
  | n + 1, h => by
    show (exs f n || f n) = true
    rcases Nat.lt_or_ge j n with q | q
    · rw [exs_t hj q]; rfl
    · rw [show n = j by omega, hj, Bool.or_true]
theorem exs_f {f : Nat → Bool} : ∀ {n : Nat}, (∀ j, j < n → f j = false) → exs f n = false
  | 0, _ => rfl
  | n + 1, h => by
    show (exs f n || f n) = false
    rw [exs_f (fun j hj => h j (Nat.lt_succ_of_lt hj)), h n (Nat.lt_succ_self n)]; rfl
theorem als_f {f : Nat → Bool} {j : Nat} (hj : f j = false) : ∀ {n : Nat}, j < n → als f n = false
  | 0, h => absurd h (Nat.not_lt_zero j)
  | n + 1, h => by
    show (als f n && f n) = false
    rcases Nat.lt_or_ge j n with q | q
    · rw [als_f hj q]; rfl
    · rw [show n = j by omega, hj, Bool.and_false]
theorem als_t {f : Nat → Bool} : ∀ {n : Nat}, (∀ j, j < n → f j = true) → als f n = true
  | 0, _ => rfl
  | n + 1, h => by
    show (als f n && f n) = true
    rw [als_t (fun j hj => h j (Nat.lt_succ_of_lt hj)), h n (Nat.lt_succ_self n)]; rfl
theorem ft_s {f : Nat → Bool} {k : Nat} (h : ∀ j, j < k → f j = true) (hk : f k = true) : ∀ j, j < k + 1 → f j = true := fun j hj => by
  rcases Nat.lt_or_ge j k with q | q
  · exact h j q
  · have e : j = k := by omega
    rw [e]
    exact hk
theorem ft_0 {f : Nat → Bool} : ∀ j, j < 0 → f j = true := fun j hj => absurd hj (Nat.not_lt_zero j)
theorem rk_r {τ : Tau} (hR : Rng τ) (g : Nat) (x : Int) : -1 ≤ rkI τ g x ∧ rkI τ g x < τ 8 g ∨ rkI τ g x = -1 := by
  have h1 := ff_1 (rkB τ g x) (τ 8 g).toNat
  have h2 : (0 : Int) ≤ τ 8 g ∧ τ 8 g ≤ 20 := hR 8 g
  unfold rkI
  omega
def uwI (τ : Tau) (j : Nat) (x a b : Int) : Int := if τ 13 j = x then cm a b (τ 14 j) (τ 15 j) else 0
theorem uw_r {τ : Tau} (hR : Rng τ) (j : Nat) (x a b : Int) : 0 ≤ uwI τ j x a b ∧ uwI τ j x a b ≤ 20000 := by
  have h1 : (0 : Int) ≤ τ 14 j ∧ τ 14 j ≤ 20000 := hR 14 j
  have h2 : (0 : Int) ≤ τ 15 j ∧ τ 15 j ≤ 20000 := hR 15 j
  unfold uwI cm
  split <;> omega
theorem uw_tk {τ : Tau} (hR : Rng τ) (j : Nat) (x a b : Int) : 0 < uwI τ j x a b ↔ tkB τ x a b j = true := by
  have h3 : 0 ≤ cm a b (τ 14 j) (τ 15 j) := by unfold cm; omega
  unfold uwI tkB
  rw [decide_eq_true_iff]
  split <;> omega
def smB (τ : Tau) (x : Int) : Bool := exs (fun s => decide (τ 13 s = x)) (τ 12 0).toNat
def tkO (τ : Tau) (x a b : Int) : Bool := exs (tkB τ x a b) (τ 12 0).toNat

set_option maxHeartbeats 4000000 in
set_option maxRecDepth 100000 in
theorem c7_isWithin (l : Launch) (a : Int) (h_a : I32 a) (b : Int) (h_b : I32 b) (u : Int) (h_u : I32 u)  : Met l yX7_isWithin wsX7_isWithin { frames := 0, cells := 0, slots := 0, locals := 0 } (sPc [.int (iI (a)), .int (iI (b)), .int (iI (u))]) (rS (bI (b ≤ a ∧ a ≤ u))) 0 0 (NoA) := by
  refine s_start (by decide) rfl (Nat.le_of_ble_eq_true rfl) ?_
  intro p e s m below meth c hx hb hr hlocks hml hts hown ls hl
  have hl : lv_has ls 3 [(0, .int (iI (a))), (1, .int (iI (b))), (2, .int (iI (u)))] := hl
  refine lv_iload_n hx hb dX7_isWithin_0 rfl (lv_at hl 0 rfl) ?_
  refine lv_iload_n hx hb dX7_isWithin_1 rfl (lv_at hl 1 rfl) ?_
  refine z_icmp_lt (tgt := 14) hx hb (by omega) (by omega) dX7_isWithin_2 (by decide) (fun c1 => ?_) (fun c1 => ?_)
  · refine z_iconst hx hb dX7_isWithin_14 ?_
    exact s_zret hx hb hr hlocks ((bI_f (by omega)).symm) dX7_isWithin_15
  · refine lv_iload_n hx hb dX7_isWithin_5 rfl (lv_at hl 0 rfl) ?_
    refine lv_iload_n hx hb dX7_isWithin_6 rfl (lv_at hl 2 rfl) ?_
    refine z_icmp_gt (tgt := 14) hx hb (by omega) (by omega) dX7_isWithin_7 (by decide) (fun c2 => ?_) (fun c2 => ?_)
    · refine z_iconst hx hb dX7_isWithin_14 ?_
      exact s_zret hx hb hr hlocks ((bI_f (by omega)).symm) dX7_isWithin_15
    · refine z_iconst hx hb dX7_isWithin_10 ?_
      refine lv_goto (tgt := 15) hx hb dX7_isWithin_11 (by decide) ?_
      exact s_zret hx hb hr hlocks ((bI_t (by omega)).symm) dX7_isWithin_15
set_option maxHeartbeats 4000000 in
set_option maxRecDepth 100000 in
theorem c7_isCode (l : Launch) (a : Int) (h_a : I32 a)  : Met l yX7_isCode wsX7_isCode { frames := 1, cells := 0, slots := 0, locals := 22 } (sPc [.int (iI (a))]) (rS (bI (0 ≤ a ∧ a ≤ 9))) 0 0 (NoA) := by
  refine s_start (by decide) rfl (Nat.le_of_ble_eq_true rfl) ?_
  intro p e s m below meth c hx hb hr hlocks hml hts hown ls hl
  have hl : lv_has ls 1 [(0, .int (iI (a)))] := hl
  refine lv_iload_n hx hb dX7_isCode_0 rfl (lv_at hl 0 rfl) ?_
  refine z_iconst hx hb dX7_isCode_1 ?_
  refine z_bipush hx hb dX7_isCode_2 (by decide) ?_
  refine s_call (n := 3) (As := [.int (iI (a)), .int (iI (0)), .int (iI (9))]) (rest := []) hx hb hml hts hown (c7_isWithin l a (by omega) 0 (by omega) 9 (by omega)) gX7_isCode_X7_isWithin rfl rfl rfl (by decide +kernel) ⟨by decide, by decide⟩ rfl hl.1 rfl (Nat.le_of_ble_eq_true rfl) ⟨Nat.zero_le _, Nat.zero_le _⟩ dX7_isCode_4 ?_
  exact s_zret hx hb hr hlocks (bI_c (by omega)) dX7_isCode_7
set_option maxHeartbeats 4000000 in
set_option maxRecDepth 100000 in
theorem c7_unitsInCommon (l : Launch) (a : Int) (h_a : I32 a) (b : Int) (h_b : I32 b) (u : Int) (h_u : I32 u) (v : Int) (h_v : I32 v) (hc : -1000000 ≤ a ∧ a ≤ 1000000 ∧ -1000000 ≤ b ∧ b ≤ 1000000 ∧ 0 ≤ u ∧ u ≤ 1000000 ∧ 0 ≤ v ∧ v ≤ 1000000) : Met l yX7_unitsInCommon wsX7_unitsInCommon { frames := 1, cells := 0, slots := 0, locals := 21 } (sPc [.int (iI (a)), .int (iI (b)), .int (iI (u)), .int (iI (v))]) (rS (cm a b u v)) 0 0 (NoA) := by
  refine s_start (by decide) rfl (Nat.le_of_ble_eq_true rfl) ?_
  intro p e s m below meth c hx hb hr hlocks hml hts hown ls hl
  have hl : lv_has ls 4 [(0, .int (iI (a))), (1, .int (iI (b))), (2, .int (iI (u))), (3, .int (iI (v)))] := hl
  refine z_iconst hx hb dX7_unitsInCommon_0 ?_
  refine lv_iload_n hx hb dX7_unitsInCommon_1 rfl (lv_at hl 1 rfl) ?_
  refine lv_iload_n hx hb dX7_unitsInCommon_2 rfl (lv_at hl 3 rfl) ?_
  refine z_mmin (own := RX7) hx hb (hml.trans hl.1.symm) hown (hts (.methodLink RX7 235 Lib.Math.min.name) (by decide +kernel)) (hts (.static Lib.Math.min.name) (by decide +kernel)) (hts (.initialized "java/lang/Math") (by decide +kernel)) (hts (.code Lib.Math.min.name Lib.Math.min.code 2 (some .int)) (by decide +kernel)) (by decide) (Nat.le_of_ble_eq_true rfl) (Nat.zero_le _) (Nat.zero_le _) (by omega) (by omega) dX7_unitsInCommon_3 ?_
  refine lv_iload_n hx hb dX7_unitsInCommon_6 rfl (lv_at hl 0 rfl) ?_
  refine lv_iload_n hx hb dX7_unitsInCommon_7 rfl (lv_at hl 2 rfl) ?_
  refine z_mmax (own := RX7) hx hb (hml.trans hl.1.symm) hown (hts (.methodLink RX7 282 Lib.Math.max.name) (by decide +kernel)) (hts (.static Lib.Math.max.name) (by decide +kernel)) (hts (.initialized "java/lang/Math") (by decide +kernel)) (hts (.code Lib.Math.max.name Lib.Math.max.code 2 (some .int)) (by decide +kernel)) (by decide) (Nat.le_of_ble_eq_true rfl) (Nat.zero_le _) (Nat.zero_le _) (by omega) (by omega) dX7_unitsInCommon_8 ?_
  refine z_isub hx hb dX7_unitsInCommon_11 ?_
  refine z_mmax (own := RX7) hx hb (hml.trans hl.1.symm) hown (hts (.methodLink RX7 282 Lib.Math.max.name) (by decide +kernel)) (hts (.static Lib.Math.max.name) (by decide +kernel)) (hts (.initialized "java/lang/Math") (by decide +kernel)) (hts (.code Lib.Math.max.name Lib.Math.max.code 2 (some .int)) (by decide +kernel)) (by decide) (Nat.le_of_ble_eq_true rfl) (Nat.zero_le _) (Nat.zero_le _) (by omega) (by omega) dX7_unitsInCommon_12 ?_
  exact s_iret hx hb hr hlocks (rfl) dX7_unitsInCommon_15
set_option maxHeartbeats 4000000 in
set_option maxRecDepth 100000 in
theorem c7_mixed (l : Launch) (a : Int) (b : Int)  : Met l yX7_mixed wsX7_mixed { frames := 0, cells := 0, slots := 0, locals := 0 } (sPc [.long (lL (a)), .long (lL (b))]) (rL (31 * a + b)) 0 0 (NoA) := by
  refine s_start (by decide) rfl (Nat.le_of_ble_eq_true rfl) ?_
  intro p e s m below meth c hx hb hr hlocks hml hts hown ls hl
  have hl : lv_has ls 4 [(0, .long (lL (a))), (2, .long (lL (b)))] := hl
  refine z_ldc2 (n := 31) hx hb hown (hts (.constantLong RX7 285 (31)) (by decide +kernel)) (by decide) dX7_mixed_0 ?_
  refine lv_lload_n hx hb dX7_mixed_3 rfl (lv_at hl 0 rfl) ?_
  refine z_lmul hx hb dX7_mixed_4 ?_
  refine lv_lload_n hx hb dX7_mixed_5 rfl (lv_at hl 1 rfl) ?_
  refine z_ladd hx hb dX7_mixed_6 ?_
  exact s_lret hx hb hr hlocks (rfl) dX7_mixed_7
set_option maxHeartbeats 4000000 in
set_option maxRecDepth 100000 in
theorem c2_top (l : Launch) (D : va_G) (cT : Nat → ClassId) (ad : Adr) (τ ρ : Tau) (hI : Rng τ) (g : Nat) (hlg : (g : Int) < 2 * τ 0 0) (k : Nat) (zk : Int) (hzk : zk = (k : Int)) (hk : k ≤ 20) : Met l yX2_top wsX2_top { frames := 0, cells := 0, slots := 0, locals := 0 } (cPc D cT ad τ ρ [.ref (ad 15 g), .int (iI zk)]) (rS (frO τ g k)) 0 0 (NoA) := by
  subst hzk
  refine c_start (by decide) rfl (Nat.le_of_ble_eq_true rfl) ?_
  intro p e s m below meth c hx hb hr hlocks hml hts hown hW hK hNW ls hl
  have hinX2 : ∀ w ∈ wsX20, w ∈ wsX2_top := by decide +kernel
  have hl : lv_has ls 2 [(0, .ref (ad 15 g)), (1, .int (iI ((k : Int))))] := hl
  refine lv_iload_n hx hb dX2_top_0 rfl (lv_at hl 1 rfl) ?_
  refine z_if_ne (tgt := 8) hx hb (by omega) dX2_top_1 (by decide) (fun c1 => ?_) (fun c1 => ?_)
  · refine lv_aload_n hx hb dX2_top_8 rfl (lv_at hl 0 rfl) ?_
    refine y_get (C := RX2) (T := TX2) (N := 3) (ref := "CoreShed$Log") (ci := 2) hx hb hts hinX2 hown hK (cw15 hW (i := g) (by omega)) rfl 0 (by decide) (hts _ (by decide +kernel)) rfl (v := .ref (ad 16 g)) rfl dX2_top_9 ?_
    refine lv_iload_n hx hb dX2_top_12 rfl (lv_at hl 1 rfl) ?_
    refine z_iconst hx hb dX2_top_13 ?_
    refine z_isub hx hb dX2_top_14 ?_
    refine y_iald (j := k - 1) hx hb hK 0 (cw16 hW (i := g) (by omega)) rfl (by omega) (by omega) (by decide) dX2_top_15 ?_
    have r2 : (0 : Int) ≤ τ 9 (20 * g + (k - 1)) ∧ τ 9 (20 * g + (k - 1)) ≤ 20000 := hI 9 (20 * g + (k - 1))
    exact s_iret hx hb hr hlocks (by unfold frO; (first | rw [if_pos (by omega)] | rw [if_neg (by omega)])) dX2_top_16
  · refine z_iconst hx hb dX2_top_4 ?_
    refine lv_goto (tgt := 16) hx hb dX2_top_5 (by decide) ?_
    exact s_iret hx hb hr hlocks (by unfold frO; (first | rw [if_pos (by omega)] | rw [if_neg (by omega)])) dX2_top_16
set_option maxHeartbeats 4000000 in
set_option maxRecDepth 100000 in
theorem c2_bottom (l : Launch) (D : va_G) (cT : Nat → ClassId) (ad : Adr) (τ ρ : Tau) (hI : Rng τ) (g : Nat) (hlg : (g : Int) < 2 * τ 0 0)  : Met l yX2_bottom wsX2_bottom { frames := 1, cells := 0, slots := 0, locals := 21 } (cPc D cT ad τ ρ [.ref (ad 15 g)]) (rS (frO τ g (τ 8 g).toNat)) 0 0 (NoA) := by
  refine c_start (by decide) rfl (Nat.le_of_ble_eq_true rfl) ?_
  intro p e s m below meth c hx hb hr hlocks hml hts hown hW hK hNW ls hl
  have hinX2 : ∀ w ∈ wsX20, w ∈ wsX2_bottom := by decide +kernel
  have hl : lv_has ls 1 [(0, .ref (ad 15 g))] := hl
  refine lv_aload_n hx hb dX2_bottom_0 rfl (lv_at hl 0 rfl) ?_
  refine lv_aload_n hx hb dX2_bottom_1 rfl (lv_at hl 0 rfl) ?_
  refine y_get (C := RX2) (T := TX2) (N := 3) (ref := "CoreShed$Log") (ci := 2) hx hb hts hinX2 hown hK (cw15 hW (i := g) (by omega)) rfl 2 (by decide) (hts _ (by decide +kernel)) rfl (v := .int (iI (τ 8 g))) rfl dX2_bottom_2 ?_
  have r1 : (0 : Int) ≤ τ 8 g ∧ τ 8 g ≤ 20 := hI 8 g
  refine c_call (n := 1) (As := [.int (iI (τ 8 g))]) (rest := []) hx hb hml hts hown hK hNW hW (va_recv hK (cw15 hW (i := g) (by omega)) (ci := 2) (q0 := 0) rfl rfl) (c2_top l D cT ad τ ρ hI g (by omega) ((τ 8 g).toNat) (τ 8 g) (by omega) (by omega)) gX2_bottom_X2_top rfl rfl rfl (by decide +kernel) ⟨by decide, by decide⟩ rfl hl.1 rfl (Nat.le_of_ble_eq_true rfl) ⟨Nat.zero_le _, Nat.zero_le _⟩ dX2_bottom_5 ?_
  have r2 := fr_r hI g ((τ 8 g).toNat)
  exact s_iret hx hb hr hlocks (rfl) dX2_bottom_8
set_option maxHeartbeats 4000000 in
set_option maxRecDepth 100000 in
theorem c2_thickness (l : Launch) (D : va_G) (cT : Nat → ClassId) (ad : Adr) (τ ρ : Tau) (hI : Rng τ) (g : Nat) (hlg : (g : Int) < 2 * τ 0 0) (k : Nat) (zk : Int) (hzk : zk = (k : Int)) (hk : k < 20) : Met l yX2_thickness wsX2_thickness { frames := 1, cells := 0, slots := 0, locals := 21 } (cPc D cT ad τ ρ [.ref (ad 15 g), .int (iI zk)]) (rS (thO τ g k)) 0 0 (NoA) := by
  subst hzk
  refine c_start (by decide) rfl (Nat.le_of_ble_eq_true rfl) ?_
  intro p e s m below meth c hx hb hr hlocks hml hts hown hW hK hNW ls hl
  have hinX2 : ∀ w ∈ wsX20, w ∈ wsX2_thickness := by decide +kernel
  have hl : lv_has ls 2 [(0, .ref (ad 15 g)), (1, .int (iI ((k : Int))))] := hl
  refine lv_aload_n hx hb dX2_thickness_0 rfl (lv_at hl 0 rfl) ?_
  refine y_get (C := RX2) (T := TX2) (N := 3) (ref := "CoreShed$Log") (ci := 2) hx hb hts hinX2 hown hK (cw15 hW (i := g) (by omega)) rfl 0 (by decide) (hts _ (by decide +kernel)) rfl (v := .ref (ad 16 g)) rfl dX2_thickness_1 ?_
  refine lv_iload_n hx hb dX2_thickness_4 rfl (lv_at hl 1 rfl) ?_
  refine y_iald (j := k) hx hb hK 0 (cw16 hW (i := g) (by omega)) rfl (by omega) (by omega) (by decide) dX2_thickness_5 ?_
  have r1 : (0 : Int) ≤ τ 9 (20 * g + k) ∧ τ 9 (20 * g + k) ≤ 20000 := hI 9 (20 * g + k)
  refine lv_aload_n hx hb dX2_thickness_6 rfl (lv_at hl 0 rfl) ?_
  refine lv_iload_n hx hb dX2_thickness_7 rfl (lv_at hl 1 rfl) ?_
  refine c_call (n := 1) (As := [.int (iI ((k : Int)))]) (rest := [.int (iI (τ 9 (20 * g + k)))]) hx hb hml hts hown hK hNW hW (va_recv hK (cw15 hW (i := g) (by omega)) (ci := 2) (q0 := 0) rfl rfl) (c2_top l D cT ad τ ρ hI g (by omega) k (k : Int) (by omega) (by omega)) gX2_thickness_X2_top rfl rfl rfl (by decide +kernel) ⟨by decide, by decide⟩ rfl hl.1 rfl (Nat.le_of_ble_eq_true rfl) ⟨Nat.zero_le _, Nat.zero_le _⟩ dX2_thickness_8 ?_
  have r2 := fr_r hI g k
  refine z_isub hx hb dX2_thickness_11 ?_
  exact s_iret hx hb hr hlocks (rfl) dX2_thickness_12
set_option maxHeartbeats 4000000 in
set_option maxRecDepth 100000 in
theorem c2_indexAt (l : Launch) (D : va_G) (cT : Nat → ClassId) (ad : Adr) (τ ρ : Tau) (hI : Rng τ) (g : Nat) (hlg : (g : Int) < 2 * τ 0 0) (x : Int) (h_x : I32 x)  : Met l yX2_indexAt wsX2_indexAt { frames := 1, cells := 0, slots := 0, locals := 21 } (cPc D cT ad τ ρ [.ref (ad 15 g), .int (iI (x))]) (rS (rkI τ g x)) 0 0 (NoA) := by
  refine c_start (by decide) rfl (Nat.le_of_ble_eq_true rfl) ?_
  intro p e s m below meth c hx hb hr hlocks hml hts hown hW hK hNW ls hl
  have hinX2 : ∀ w ∈ wsX20, w ∈ wsX2_indexAt := by decide +kernel
  have hl : lv_has ls 3 [(0, .ref (ad 15 g)), (1, .int (iI (x)))] := hl
  obtain ⟨N, hN⟩ : ∃ N : Nat, τ 8 g = N := ⟨(τ 8 g).toNat, by have : (0 : Int) ≤ τ 8 g ∧ τ 8 g ≤ 20 := hI 8 g; omega⟩
  have hN2 : (τ 8 g).toNat = N := by omega
  have hN3 : N ≤ 20 := by have : (0 : Int) ≤ τ 8 g ∧ τ 8 g ≤ 20 := hI 8 g; omega
  refine z_iconst hx hb dX2_indexAt_0 ?_
  refine lv_istore_n (lv' := [(2, .int (iI (0))), (0, .ref (ad 15 g)), (1, .int (iI (x)))]) hx hb dX2_indexAt_1 rfl hl (by decide) rfl (fun ls hl => ?_)
  have lp2 : ∀ (n2 k : Nat) (x2 : Int), x2 = (k : Int) → k ≤ N → N + 1 ≤ k + n2 → (∀ j, j < k → rkB τ g x j = false) → ∀ ls : Array Slot, lv_has ls 3 [(2, .int (iI (x2))), (0, .ref (ad 15 g)), (1, .int (iI (x)))] → W p l e { frames := 1, cells := 0, slots := 0, locals := 21 } s m [.ref (ad 15 g), .int (iI (x))].toArray below meth c s.heap [] 0 0 (MQ below (rS (rkI τ g x)) [.ref (ad 15 g), .int (iI (x))].toArray s 0 0 (NoA)) (F0 m 2 ls []) := by
    intro n2
    induction n2 with
    | zero => intro k x2  ex2 hk1 hk2; exact absurd hk2 (by omega)
    | succ n2 ih2 =>
      intro k x2  ex2 hk1 hk2 hn ls hl
      subst ex2
      refine lv_iload_n hx hb dX2_indexAt_2 rfl (lv_at hl 0 rfl) ?_
      refine lv_aload_n hx hb dX2_indexAt_3 rfl (lv_at hl 1 rfl) ?_
      refine y_get (C := RX2) (T := TX2) (N := 3) (ref := "CoreShed$Log") (ci := 2) hx hb hts hinX2 hown hK (cw15 hW (i := g) (by omega)) rfl 2 (by decide) (hts _ (by decide +kernel)) rfl (v := .int (iI (τ 8 g))) rfl dX2_indexAt_4 ?_
      have r1 : (0 : Int) ≤ τ 8 g ∧ τ 8 g ≤ 20 := hI 8 g
      refine z_icmp_ge (tgt := 37) hx hb (by omega) (by omega) dX2_indexAt_7 (by decide) (fun c2 => ?_) (fun c2 => ?_)
      · refine z_iconst hx hb dX2_indexAt_37 ?_
        exact s_iret hx hb hr hlocks (by unfold rkI; rw [hN2, show N = k by omega]; exact (ff_no hn).symm) dX2_indexAt_38
      · refine lv_iload_n hx hb dX2_indexAt_10 rfl (lv_at hl 2 rfl) ?_
        refine lv_aload_n hx hb dX2_indexAt_11 rfl (lv_at hl 1 rfl) ?_
        refine lv_iload_n hx hb dX2_indexAt_12 rfl (lv_at hl 0 rfl) ?_
        refine c_call (n := 1) (As := [.int (iI ((k : Int)))]) (rest := [.int (iI (x))]) hx hb hml hts hown hK hNW hW (va_recv hK (cw15 hW (i := g) (by omega)) (ci := 2) (q0 := 0) rfl rfl) (c2_top l D cT ad τ ρ hI g (by omega) k (k : Int) (by omega) (by omega)) gX2_indexAt_X2_top rfl rfl rfl (by decide +kernel) ⟨by decide, by decide⟩ rfl hl.1 rfl (Nat.le_of_ble_eq_true rfl) ⟨Nat.zero_le _, Nat.zero_le _⟩ dX2_indexAt_13 ?_
        have r3 := fr_r hI g k
        refine z_icmp_lt (tgt := 31) hx hb (by omega) (by omega) dX2_indexAt_16 (by decide) (fun c4 => ?_) (fun c4 => ?_)
        · refine z_iinc (k := 0) (lv' := [(2, .int (iI ((k : Int) + 1))), (0, .ref (ad 15 g)), (1, .int (iI (x)))]) hx hb dX2_indexAt_31 hl rfl (by decide) rfl (fun ls hl => ?_)
          refine lv_goto (tgt := 2) hx hb dX2_indexAt_34 (by decide) ?_
          exact ih2 (k + 1) ((k : Int) + 1)  (by omega) (by omega) (by omega) (fl_s hn (decide_eq_false (by omega))) ls (lv_sub hl [0, 1, 2] rfl)
        · refine lv_iload_n hx hb dX2_indexAt_19 rfl (lv_at hl 2 rfl) ?_
          refine lv_aload_n hx hb dX2_indexAt_20 rfl (lv_at hl 1 rfl) ?_
          refine y_get (C := RX2) (T := TX2) (N := 3) (ref := "CoreShed$Log") (ci := 2) hx hb hts hinX2 hown hK (cw15 hW (i := g) (by omega)) rfl 0 (by decide) (hts _ (by decide +kernel)) rfl (v := .ref (ad 16 g)) rfl dX2_indexAt_21 ?_
          refine lv_iload_n hx hb dX2_indexAt_24 rfl (lv_at hl 0 rfl) ?_
          refine y_iald (j := k) hx hb hK 0 (cw16 hW (i := g) (by omega)) rfl (by omega) (by omega) (by decide) dX2_indexAt_25 ?_
          have r5 : (0 : Int) ≤ τ 9 (20 * g + k) ∧ τ 9 (20 * g + k) ≤ 20000 := hI 9 (20 * g + k)
          refine z_icmp_ge (tgt := 31) hx hb (by omega) (by omega) dX2_indexAt_26 (by decide) (fun c6 => ?_) (fun c6 => ?_)
          · refine z_iinc (k := 0) (lv' := [(2, .int (iI ((k : Int) + 1))), (0, .ref (ad 15 g)), (1, .int (iI (x)))]) hx hb dX2_indexAt_31 hl rfl (by decide) rfl (fun ls hl => ?_)
            refine lv_goto (tgt := 2) hx hb dX2_indexAt_34 (by decide) ?_
            exact ih2 (k + 1) ((k : Int) + 1)  (by omega) (by omega) (by omega) (fl_s hn (decide_eq_false (by omega))) ls (lv_sub hl [0, 1, 2] rfl)
          · refine lv_iload_n hx hb dX2_indexAt_29 rfl (lv_at hl 0 rfl) ?_
            exact s_iret hx hb hr hlocks (by unfold rkI; rw [hN2]; exact (ff_at hn (decide_eq_true (by omega)) (by omega)).symm) dX2_indexAt_30
  exact lp2 (N + 1) 0 0  (by omega) (by omega) (by omega) fl_0 ls (lv_sub hl [0, 1, 2] rfl)
set_option maxHeartbeats 4000000 in
set_option maxRecDepth 100000 in
theorem c2_digestOnto (l : Launch) (D : va_G) (cT : Nat → ClassId) (ad : Adr) (τ ρ : Tau) (hI : Rng τ) (g : Nat) (hlg : (g : Int) < 2 * τ 0 0) (a : Int)  : Met l yX2_digestOnto wsX2_digestOnto { frames := 1, cells := 0, slots := 0, locals := 23 } (cPc D cT ad τ ρ [.ref (ad 15 g), .long (lL (a))]) (rL (dgLog τ g a)) 0 0 (NoA) := by
  refine c_start (by decide) rfl (Nat.le_of_ble_eq_true rfl) ?_
  intro p e s m below meth c hx hb hr hlocks hml hts hown hW hK hNW ls hl
  have hinX2 : ∀ w ∈ wsX20, w ∈ wsX2_digestOnto := by decide +kernel
  have hl : lv_has ls 6 [(0, .ref (ad 15 g)), (1, .long (lL (a)))] := hl
  obtain ⟨N, hN⟩ : ∃ N : Nat, τ 8 g = N := ⟨(τ 8 g).toNat, by have : (0 : Int) ≤ τ 8 g ∧ τ 8 g ≤ 20 := hI 8 g; omega⟩
  have hN2 : (τ 8 g).toNat = N := by omega
  have hN3 : N ≤ 20 := by have : (0 : Int) ≤ τ 8 g ∧ τ 8 g ≤ 20 := hI 8 g; omega
  refine lv_lload_n hx hb dX2_digestOnto_0 rfl (lv_at hl 1 rfl) ?_
  refine lv_lstore_n (lv' := [(3, .long (lL (a))), (0, .ref (ad 15 g)), (1, .long (lL (a)))]) hx hb dX2_digestOnto_1 rfl hl (by decide) rfl (fun ls hl => ?_)
  refine z_iconst hx hb dX2_digestOnto_2 ?_
  refine lv_istore (lv' := [(5, .int (iI (0))), (3, .long (lL (a))), (0, .ref (ad 15 g)), (1, .long (lL (a)))]) hx hb dX2_digestOnto_3 hl (by decide) rfl (fun ls hl => ?_)
  have lp5 : ∀ (n5 k : Nat) (x3 x5 : Int), x3 = fo (fun k d => 31 * (31 * d + τ 9 (20 * g + k)) + τ 10 (20 * g + k)) a k → x5 = (k : Int) → k ≤ N → N + 1 ≤ k + n5 → ∀ ls : Array Slot, lv_has ls 6 [(3, .long (lL (x3))), (5, .int (iI (x5))), (0, .ref (ad 15 g))] → W p l e { frames := 1, cells := 0, slots := 0, locals := 23 } s m [.ref (ad 15 g), .long (lL (a))].toArray below meth c s.heap [] 0 0 (MQ below (rL (dgLog τ g a)) [.ref (ad 15 g), .long (lL (a))].toArray s 0 0 (NoA)) (F0 m 5 ls []) := by
    intro n5
    induction n5 with
    | zero => intro k x3 x5  ex3 ex5 hk1 hk2; exact absurd hk2 (by omega)
    | succ n5 ih5 =>
      intro k x3 x5  ex3 ex5 hk1 hk2  ls hl
      subst ex3
      subst ex5
      refine lv_iload hx hb dX2_digestOnto_5 (lv_at hl 1 rfl) ?_
      refine lv_aload_n hx hb dX2_digestOnto_7 rfl (lv_at hl 2 rfl) ?_
      refine y_get (C := RX2) (T := TX2) (N := 3) (ref := "CoreShed$Log") (ci := 2) hx hb hts hinX2 hown hK (cw15 hW (i := g) (by omega)) rfl 2 (by decide) (hts _ (by decide +kernel)) rfl (v := .int (iI (τ 8 g))) rfl dX2_digestOnto_8 ?_
      have r1 : (0 : Int) ≤ τ 8 g ∧ τ 8 g ≤ 20 := hI 8 g
      refine z_icmp_ge (tgt := 44) hx hb (by omega) (by omega) dX2_digestOnto_11 (by decide) (fun c2 => ?_) (fun c2 => ?_)
      · refine lv_lload_n hx hb dX2_digestOnto_44 rfl (lv_at hl 0 rfl) ?_
        exact s_lret hx hb hr hlocks (by unfold dgLog; rw [hN2, show N = k by omega]) dX2_digestOnto_45
      · refine lv_lload_n hx hb dX2_digestOnto_14 rfl (lv_at hl 0 rfl) ?_
        refine lv_aload_n hx hb dX2_digestOnto_15 rfl (lv_at hl 2 rfl) ?_
        refine y_get (C := RX2) (T := TX2) (N := 3) (ref := "CoreShed$Log") (ci := 2) hx hb hts hinX2 hown hK (cw15 hW (i := g) (by omega)) rfl 0 (by decide) (hts _ (by decide +kernel)) rfl (v := .ref (ad 16 g)) rfl dX2_digestOnto_16 ?_
        refine lv_iload hx hb dX2_digestOnto_19 (lv_at hl 1 rfl) ?_
        refine y_iald (j := k) hx hb hK 0 (cw16 hW (i := g) (by omega)) rfl (by omega) (by omega) (by decide) dX2_digestOnto_21 ?_
        have r3 : (0 : Int) ≤ τ 9 (20 * g + k) ∧ τ 9 (20 * g + k) ≤ 20000 := hI 9 (20 * g + k)
        refine z_i2l hx hb (by omega) dX2_digestOnto_22 ?_
        refine s_callLN (n := 2) (As := [.long (lL (fo (fun k d => 31 * (31 * d + τ 9 (20 * g + k)) + τ 10 (20 * g + k)) a k)), .long (lL (τ 9 (20 * g + k)))]) (rest := []) hx hb hml hts hown (c7_mixed l (fo (fun k d => 31 * (31 * d + τ 9 (20 * g + k)) + τ 10 (20 * g + k)) a k) (τ 9 (20 * g + k))) gX2_digestOnto_X7_mixed_n26 rfl rfl rfl hNW.2.2.2.2.2.2.2.2.1 (hts (.initialized RX7) (by decide +kernel)) (hts (.static yX7_mixed) (by decide +kernel)) (by decide +kernel) ⟨by decide, by decide⟩ rfl hl.1 rfl (Nat.le_of_ble_eq_true rfl) ⟨Nat.zero_le _, Nat.zero_le _⟩ dX2_digestOnto_23 ?_
        refine lv_aload_n hx hb dX2_digestOnto_26 rfl (lv_at hl 2 rfl) ?_
        refine y_get (C := RX2) (T := TX2) (N := 3) (ref := "CoreShed$Log") (ci := 2) hx hb hts hinX2 hown hK (cw15 hW (i := g) (by omega)) rfl 1 (by decide) (hts _ (by decide +kernel)) rfl (v := .ref (ad 17 g)) rfl dX2_digestOnto_27 ?_
        refine lv_iload hx hb dX2_digestOnto_30 (lv_at hl 1 rfl) ?_
        refine y_iald (j := k) hx hb hK 0 (cw17 hW (i := g) (by omega)) rfl (by omega) (by omega) (by decide) dX2_digestOnto_32 ?_
        have r4 : (0 : Int) ≤ τ 10 (20 * g + k) ∧ τ 10 (20 * g + k) ≤ 9 := hI 10 (20 * g + k)
        refine z_i2l hx hb (by omega) dX2_digestOnto_33 ?_
        refine s_callLN (n := 2) (As := [.long (lL (31 * (fo (fun k d => 31 * (31 * d + τ 9 (20 * g + k)) + τ 10 (20 * g + k)) a k) + (τ 9 (20 * g + k)))), .long (lL (τ 10 (20 * g + k)))]) (rest := []) hx hb hml hts hown (c7_mixed l (31 * (fo (fun k d => 31 * (31 * d + τ 9 (20 * g + k)) + τ 10 (20 * g + k)) a k) + (τ 9 (20 * g + k))) (τ 10 (20 * g + k))) gX2_digestOnto_X7_mixed_n26 rfl rfl rfl hNW.2.2.2.2.2.2.2.2.1 (hts (.initialized RX7) (by decide +kernel)) (hts (.static yX7_mixed) (by decide +kernel)) (by decide +kernel) ⟨by decide, by decide⟩ rfl hl.1 rfl (Nat.le_of_ble_eq_true rfl) ⟨Nat.zero_le _, Nat.zero_le _⟩ dX2_digestOnto_34 ?_
        refine lv_lstore_n (lv' := [(3, .long (lL (31 * (31 * (fo (fun k d => 31 * (31 * d + τ 9 (20 * g + k)) + τ 10 (20 * g + k)) a k) + (τ 9 (20 * g + k))) + (τ 10 (20 * g + k))))), (5, .int (iI ((k : Int)))), (0, .ref (ad 15 g))]) hx hb dX2_digestOnto_37 rfl hl (by decide) rfl (fun ls hl => ?_)
        refine z_iinc (k := 1) (lv' := [(5, .int (iI ((k : Int) + 1))), (3, .long (lL (31 * (31 * (fo (fun k d => 31 * (31 * d + τ 9 (20 * g + k)) + τ 10 (20 * g + k)) a k) + (τ 9 (20 * g + k))) + (τ 10 (20 * g + k))))), (0, .ref (ad 15 g))]) hx hb dX2_digestOnto_38 hl rfl (by decide) rfl (fun ls hl => ?_)
        refine lv_goto (tgt := 5) hx hb dX2_digestOnto_41 (by decide) ?_
        exact ih5 (k + 1) (31 * (31 * (fo (fun k d => 31 * (31 * d + τ 9 (20 * g + k)) + τ 10 (20 * g + k)) a k) + (τ 9 (20 * g + k))) + (τ 10 (20 * g + k))) ((k : Int) + 1)  rfl (by omega) (by omega) (by omega)  ls (lv_sub hl [1, 0, 2] rfl)
  exact lp5 (N + 1) 0 a 0  rfl (by omega) (by omega) (by omega)  ls (lv_sub hl [1, 0, 2] rfl)
set_option maxHeartbeats 4000000 in
set_option maxRecDepth 100000 in
theorem c1_isLogged (l : Launch) (D : va_G) (cT : Nat → ClassId) (ad : Adr) (τ ρ : Tau) (hI : Rng τ) (h : Nat) (hlh : (h : Int) < τ 0 0)  : Met l yX1_isLogged wsX1_isLogged { frames := 0, cells := 0, slots := 0, locals := 0 } (cPc D cT ad τ ρ [.ref (ad 11 h)]) (rS (bI (0 < τ 8 (2 * h) ∨ 0 < τ 8 (2 * h + 1)))) 0 0 (NoA) := by
  refine c_start (by decide) rfl (Nat.le_of_ble_eq_true rfl) ?_
  intro p e s m below meth c hx hb hr hlocks hml hts hown hW hK hNW ls hl
  have hinX1 : ∀ w ∈ wsX10, w ∈ wsX1_isLogged := by decide +kernel
  have hinX2 : ∀ w ∈ wsX20, w ∈ wsX1_isLogged := by decide +kernel
  have hl : lv_has ls 1 [(0, .ref (ad 11 h))] := hl
  refine lv_aload_n hx hb dX1_isLogged_0 rfl (lv_at hl 0 rfl) ?_
  refine y_get (C := RX1) (T := TX1) (N := 8) (ref := "CoreShed$Hole") (ci := 1) hx hb hts hinX1 hown hK (cw11 hW (i := h) (by omega)) rfl 3 (by decide) (hts _ (by decide +kernel)) rfl (v := .ref (ad 15 (2 * h))) rfl dX1_isLogged_1 ?_
  refine y_get (C := RX2) (T := TX2) (N := 3) (ref := "CoreShed$Log") (ci := 2) hx hb hts hinX2 hown hK (cw15 hW (i := 2 * h) (by omega)) rfl 2 (by decide) (hts _ (by decide +kernel)) rfl (v := .int (iI (τ 8 (2 * h)))) rfl dX1_isLogged_4 ?_
  have r1 : (0 : Int) ≤ τ 8 (2 * h) ∧ τ 8 (2 * h) ≤ 20 := hI 8 (2 * h)
  refine z_if_gt (tgt := 20) hx hb (by omega) dX1_isLogged_7 (by decide) (fun c2 => ?_) (fun c2 => ?_)
  · refine z_iconst hx hb dX1_isLogged_20 ?_
    refine lv_goto (tgt := 25) hx hb dX1_isLogged_21 (by decide) ?_
    exact s_zret hx hb hr hlocks ((bI_t (by omega)).symm) dX1_isLogged_25
  · refine lv_aload_n hx hb dX1_isLogged_10 rfl (lv_at hl 0 rfl) ?_
    refine y_get (C := RX1) (T := TX1) (N := 8) (ref := "CoreShed$Hole") (ci := 1) hx hb hts hinX1 hown hK (cw11 hW (i := h) (by omega)) rfl 4 (by decide) (hts _ (by decide +kernel)) rfl (v := .ref (ad 15 (2 * h + 1))) rfl dX1_isLogged_11 ?_
    refine y_get (C := RX2) (T := TX2) (N := 3) (ref := "CoreShed$Log") (ci := 2) hx hb hts hinX2 hown hK (cw15 hW (i := 2 * h + 1) (by omega)) rfl 2 (by decide) (hts _ (by decide +kernel)) rfl (v := .int (iI (τ 8 (2 * h + 1)))) rfl dX1_isLogged_14 ?_
    have r3 : (0 : Int) ≤ τ 8 (2 * h + 1) ∧ τ 8 (2 * h + 1) ≤ 20 := hI 8 (2 * h + 1)
    refine z_if_le (tgt := 24) hx hb (by omega) dX1_isLogged_17 (by decide) (fun c4 => ?_) (fun c4 => ?_)
    · refine z_iconst hx hb dX1_isLogged_24 ?_
      exact s_zret hx hb hr hlocks ((bI_f (by omega)).symm) dX1_isLogged_25
    · refine z_iconst hx hb dX1_isLogged_20 ?_
      refine lv_goto (tgt := 25) hx hb dX1_isLogged_21 (by decide) ?_
      exact s_zret hx hb hr hlocks ((bI_t (by omega)).symm) dX1_isLogged_25
set_option maxHeartbeats 4000000 in
set_option maxRecDepth 100000 in
theorem c1_isStretch (l : Launch) (D : va_G) (cT : Nat → ClassId) (ad : Adr) (τ ρ : Tau) (hI : Rng τ) (h : Nat) (hlh : (h : Int) < τ 0 0) (a : Int) (h_a : I32 a) (b : Int) (h_b : I32 b)  : Met l yX1_isStretch wsX1_isStretch { frames := 0, cells := 0, slots := 0, locals := 0 } (cPc D cT ad τ ρ [.ref (ad 11 h), .int (iI (a)), .int (iI (b))]) (rS (bI (0 ≤ a ∧ a < b ∧ b ≤ τ 27 h))) 0 0 (NoA) := by
  refine c_start (by decide) rfl (Nat.le_of_ble_eq_true rfl) ?_
  intro p e s m below meth c hx hb hr hlocks hml hts hown hW hK hNW ls hl
  have hinX1 : ∀ w ∈ wsX10, w ∈ wsX1_isStretch := by decide +kernel
  have hl : lv_has ls 3 [(0, .ref (ad 11 h)), (1, .int (iI (a))), (2, .int (iI (b)))] := hl
  refine lv_iload_n hx hb dX1_isStretch_0 rfl (lv_at hl 1 rfl) ?_
  refine z_if_lt (tgt := 21) hx hb (by omega) dX1_isStretch_1 (by decide) (fun c1 => ?_) (fun c1 => ?_)
  · refine z_iconst hx hb dX1_isStretch_21 ?_
    exact s_zret hx hb hr hlocks ((bI_f (by omega)).symm) dX1_isStretch_22
  · refine lv_iload_n hx hb dX1_isStretch_4 rfl (lv_at hl 1 rfl) ?_
    refine lv_iload_n hx hb dX1_isStretch_5 rfl (lv_at hl 2 rfl) ?_
    refine z_icmp_ge (tgt := 21) hx hb (by omega) (by omega) dX1_isStretch_6 (by decide) (fun c2 => ?_) (fun c2 => ?_)
    · refine z_iconst hx hb dX1_isStretch_21 ?_
      exact s_zret hx hb hr hlocks ((bI_f (by omega)).symm) dX1_isStretch_22
    · refine lv_iload_n hx hb dX1_isStretch_9 rfl (lv_at hl 2 rfl) ?_
      refine lv_aload_n hx hb dX1_isStretch_10 rfl (lv_at hl 0 rfl) ?_
      refine y_get (C := RX1) (T := TX1) (N := 8) (ref := "CoreShed$Hole") (ci := 1) hx hb hts hinX1 hown hK (cw11 hW (i := h) (by omega)) rfl 7 (by decide) (hts _ (by decide +kernel)) rfl (v := .int (iI (τ 27 h))) rfl dX1_isStretch_11 ?_
      have r3 : (0 : Int) ≤ τ 27 h ∧ τ 27 h ≤ 20000 := hI 27 h
      refine z_icmp_gt (tgt := 21) hx hb (by omega) (by omega) dX1_isStretch_14 (by decide) (fun c4 => ?_) (fun c4 => ?_)
      · refine z_iconst hx hb dX1_isStretch_21 ?_
        exact s_zret hx hb hr hlocks ((bI_f (by omega)).symm) dX1_isStretch_22
      · refine z_iconst hx hb dX1_isStretch_17 ?_
        refine lv_goto (tgt := 22) hx hb dX1_isStretch_18 (by decide) ?_
        exact s_zret hx hb hr hlocks ((bI_t (by omega)).symm) dX1_isStretch_22
set_option maxHeartbeats 4000000 in
set_option maxRecDepth 100000 in
theorem c1_coreWithin (l : Launch) (D : va_G) (cT : Nat → ClassId) (ad : Adr) (τ ρ : Tau) (hI : Rng τ) (h : Nat) (hlh : (h : Int) < τ 0 0) (a : Int) (h_a : I32 a) (b : Int) (h_b : I32 b) (hs : 0 ≤ a ∧ a < b ∧ b ≤ 20000) : Met l yX1_coreWithin wsX1_coreWithin { frames := 2, cells := 0, slots := 0, locals := 44 } (cPc D cT ad τ ρ [.ref (ad 11 h), .int (iI (a)), .int (iI (b))]) (rS (rcO τ h a b)) 0 0 (NoA) := by
  refine c_start (by decide) rfl (Nat.le_of_ble_eq_true rfl) ?_
  intro p e s m below meth c hx hb hr hlocks hml hts hown hW hK hNW ls hl
  have hinX1 : ∀ w ∈ wsX10, w ∈ wsX1_coreWithin := by decide +kernel
  have hl : lv_has ls 6 [(0, .ref (ad 11 h)), (1, .int (iI (a))), (2, .int (iI (b)))] := hl
  obtain ⟨N, hN⟩ : ∃ N : Nat, τ 1 h = N := ⟨(τ 1 h).toNat, by have : (0 : Int) ≤ τ 1 h ∧ τ 1 h ≤ 20 := hI 1 h; omega⟩
  have hN2 : (τ 1 h).toNat = N := by omega
  have hN3 : N ≤ 20 := by have : (0 : Int) ≤ τ 1 h ∧ τ 1 h ≤ 20 := hI 1 h; omega
  refine z_iconst hx hb dX1_coreWithin_0 ?_
  refine lv_istore_n (lv' := [(3, .int (iI (0))), (0, .ref (ad 11 h)), (1, .int (iI (a))), (2, .int (iI (b)))]) hx hb dX1_coreWithin_1 rfl hl (by decide) rfl (fun ls hl => ?_)
  refine z_iconst hx hb dX1_coreWithin_2 ?_
  refine lv_istore (lv' := [(4, .int (iI (0))), (3, .int (iI (0))), (0, .ref (ad 11 h)), (1, .int (iI (a))), (2, .int (iI (b)))]) hx hb dX1_coreWithin_3 hl (by decide) rfl (fun ls hl => ?_)
  refine z_iconst hx hb dX1_coreWithin_5 ?_
  refine lv_istore (lv' := [(5, .int (iI (0))), (4, .int (iI (0))), (3, .int (iI (0))), (0, .ref (ad 11 h)), (1, .int (iI (a))), (2, .int (iI (b)))]) hx hb dX1_coreWithin_6 hl (by decide) rfl (fun ls hl => ?_)
  have lp8 : ∀ (n8 k : Nat) (x3 x4 x5 : Int), x3 = rcK τ h a b k → x4 = doK τ h k → x5 = (k : Int) → k ≤ N → N + 1 ≤ k + n8 → ∀ ls : Array Slot, lv_has ls 6 [(3, .int (iI (x3))), (4, .int (iI (x4))), (5, .int (iI (x5))), (0, .ref (ad 11 h)), (1, .int (iI (a))), (2, .int (iI (b)))] → W p l e { frames := 2, cells := 0, slots := 0, locals := 44 } s m [.ref (ad 11 h), .int (iI (a)), .int (iI (b))].toArray below meth c s.heap [] 0 0 (MQ below (rS (rcO τ h a b)) [.ref (ad 11 h), .int (iI (a)), .int (iI (b))].toArray s 0 0 (NoA)) (F0 m 8 ls []) := by
    intro n8
    induction n8 with
    | zero => intro k x3 x4 x5  ex3 ex4 ex5 hk1 hk2; exact absurd hk2 (by omega)
    | succ n8 ih8 =>
      intro k x3 x4 x5  ex3 ex4 ex5 hk1 hk2  ls hl
      subst ex3
      subst ex4
      subst ex5
      have hdo := do_r hI h k (by omega)
      refine lv_iload hx hb dX1_coreWithin_8 (lv_at hl 2 rfl) ?_
      refine lv_aload_n hx hb dX1_coreWithin_10 rfl (lv_at hl 3 rfl) ?_
      refine y_get (C := RX1) (T := TX1) (N := 8) (ref := "CoreShed$Hole") (ci := 1) hx hb hts hinX1 hown hK (cw11 hW (i := h) (by omega)) rfl 5 (by decide) (hts _ (by decide +kernel)) rfl (v := .int (iI (τ 1 h))) rfl dX1_coreWithin_11 ?_
      have r1 : (0 : Int) ≤ τ 1 h ∧ τ 1 h ≤ 20 := hI 1 h
      refine z_icmp_ge (tgt := 55) hx hb (by omega) (by omega) dX1_coreWithin_14 (by decide) (fun c2 => ?_) (fun c2 => ?_)
      · refine lv_iload_n hx hb dX1_coreWithin_55 rfl (lv_at hl 0 rfl) ?_
        exact s_iret hx hb hr hlocks (by unfold rcO; rw [hN2, show N = k by omega]) dX1_coreWithin_56
      · refine lv_iload_n hx hb dX1_coreWithin_17 rfl (lv_at hl 0 rfl) ?_
        refine lv_iload hx hb dX1_coreWithin_18 (lv_at hl 1 rfl) ?_
        refine lv_iload hx hb dX1_coreWithin_20 (lv_at hl 1 rfl) ?_
        refine lv_aload_n hx hb dX1_coreWithin_22 rfl (lv_at hl 3 rfl) ?_
        refine y_get (C := RX1) (T := TX1) (N := 8) (ref := "CoreShed$Hole") (ci := 1) hx hb hts hinX1 hown hK (cw11 hW (i := h) (by omega)) rfl 1 (by decide) (hts _ (by decide +kernel)) rfl (v := .ref (ad 13 h)) rfl dX1_coreWithin_23 ?_
        refine lv_iload hx hb dX1_coreWithin_26 (lv_at hl 2 rfl) ?_
        refine y_iald (j := k) hx hb hK 0 (cw13 hW (i := h) (by omega)) rfl (by omega) (by omega) (by decide) dX1_coreWithin_28 ?_
        have r3 : (0 : Int) ≤ τ 3 (20 * h + k) ∧ τ 3 (20 * h + k) ≤ 1000 := hI 3 (20 * h + k)
        refine z_iadd hx hb dX1_coreWithin_29 ?_
        refine lv_iload_n hx hb dX1_coreWithin_30 rfl (lv_at hl 4 rfl) ?_
        refine lv_iload_n hx hb dX1_coreWithin_31 rfl (lv_at hl 5 rfl) ?_
        refine s_callN (n := 4) (As := [.int (iI (doK τ h k)), .int (iI ((doK τ h k) + (τ 3 (20 * h + k)))), .int (iI (a)), .int (iI (b))]) (rest := [.int (iI (rcK τ h a b k))]) hx hb hml hts hown (c7_unitsInCommon l (doK τ h k) (by omega) ((doK τ h k) + (τ 3 (20 * h + k))) (by omega) a (by omega) b (by omega) (by omega)) gX1_coreWithin_X7_unitsInCommon_n41 rfl rfl rfl hNW.2.2.2.2.2.2.1 (hts (.initialized RX7) (by decide +kernel)) (hts (.static yX7_unitsInCommon) (by decide +kernel)) (by decide +kernel) ⟨by decide, by decide⟩ rfl hl.1 rfl (Nat.le_of_ble_eq_true rfl) ⟨Nat.zero_le _, Nat.zero_le _⟩ dX1_coreWithin_32 ?_
        refine z_iadd hx hb dX1_coreWithin_35 ?_
        refine lv_istore_n (lv' := [(3, .int (iI ((rcK τ h a b k) + (cm (doK τ h k) ((doK τ h k) + (τ 3 (20 * h + k))) a b)))), (4, .int (iI (doK τ h k))), (5, .int (iI ((k : Int)))), (0, .ref (ad 11 h)), (1, .int (iI (a))), (2, .int (iI (b)))]) hx hb dX1_coreWithin_36 rfl hl (by decide) rfl (fun ls hl => ?_)
        refine lv_iload hx hb dX1_coreWithin_37 (lv_at hl 1 rfl) ?_
        refine lv_aload_n hx hb dX1_coreWithin_39 rfl (lv_at hl 3 rfl) ?_
        refine y_get (C := RX1) (T := TX1) (N := 8) (ref := "CoreShed$Hole") (ci := 1) hx hb hts hinX1 hown hK (cw11 hW (i := h) (by omega)) rfl 0 (by decide) (hts _ (by decide +kernel)) rfl (v := .ref (ad 12 h)) rfl dX1_coreWithin_40 ?_
        refine lv_iload hx hb dX1_coreWithin_43 (lv_at hl 2 rfl) ?_
        refine y_iald (j := k) hx hb hK 0 (cw12 hW (i := h) (by omega)) rfl (by omega) (by omega) (by decide) dX1_coreWithin_45 ?_
        have r4 : (0 : Int) ≤ τ 2 (20 * h + k) ∧ τ 2 (20 * h + k) ≤ 1000 := hI 2 (20 * h + k)
        refine z_iadd hx hb dX1_coreWithin_46 ?_
        refine lv_istore (lv' := [(4, .int (iI ((doK τ h k) + (τ 2 (20 * h + k))))), (3, .int (iI ((rcK τ h a b k) + (cm (doK τ h k) ((doK τ h k) + (τ 3 (20 * h + k))) a b)))), (5, .int (iI ((k : Int)))), (0, .ref (ad 11 h)), (1, .int (iI (a))), (2, .int (iI (b)))]) hx hb dX1_coreWithin_47 hl (by decide) rfl (fun ls hl => ?_)
        refine z_iinc (k := 2) (lv' := [(5, .int (iI ((k : Int) + 1))), (4, .int (iI ((doK τ h k) + (τ 2 (20 * h + k))))), (3, .int (iI ((rcK τ h a b k) + (cm (doK τ h k) ((doK τ h k) + (τ 3 (20 * h + k))) a b)))), (0, .ref (ad 11 h)), (1, .int (iI (a))), (2, .int (iI (b)))]) hx hb dX1_coreWithin_49 hl rfl (by decide) rfl (fun ls hl => ?_)
        refine lv_goto (tgt := 8) hx hb dX1_coreWithin_52 (by decide) ?_
        exact ih8 (k + 1) ((rcK τ h a b k) + (cm (doK τ h k) ((doK τ h k) + (τ 3 (20 * h + k))) a b)) ((doK τ h k) + (τ 2 (20 * h + k))) ((k : Int) + 1)  (by rw [cm_comm]; rfl) rfl (by omega) (by omega) (by omega)  ls (lv_sub hl [2, 1, 0, 3, 4, 5] rfl)
  exact lp8 (N + 1) 0 0 0 0  rfl rfl (by omega) (by omega) (by omega)  ls (lv_sub hl [2, 1, 0, 3, 4, 5] rfl)
set_option maxHeartbeats 4000000 in
set_option maxRecDepth 100000 in
theorem c1_digestOnto (l : Launch) (D : va_G) (cT : Nat → ClassId) (ad : Adr) (τ ρ : Tau) (hI : Rng τ) (h : Nat) (hlh : (h : Int) < τ 0 0) (a : Int)  : Met l yX1_digestOnto wsX1_digestOnto { frames := 2, cells := 0, slots := 0, locals := 48 } (cPc D cT ad τ ρ [.ref (ad 11 h), .long (lL (a))]) (rL (dgHole τ h a)) 0 0 (NoA) := by
  refine c_start (by decide) rfl (Nat.le_of_ble_eq_true rfl) ?_
  intro p e s m below meth c hx hb hr hlocks hml hts hown hW hK hNW ls hl
  have hinX1 : ∀ w ∈ wsX10, w ∈ wsX1_digestOnto := by decide +kernel
  have hl : lv_has ls 6 [(0, .ref (ad 11 h)), (1, .long (lL (a)))] := hl
  obtain ⟨N, hN⟩ : ∃ N : Nat, τ 1 h = N := ⟨(τ 1 h).toNat, by have : (0 : Int) ≤ τ 1 h ∧ τ 1 h ≤ 20 := hI 1 h; omega⟩
  have hN2 : (τ 1 h).toNat = N := by omega
  have hN3 : N ≤ 20 := by have : (0 : Int) ≤ τ 1 h ∧ τ 1 h ≤ 20 := hI 1 h; omega
  obtain ⟨M, hM⟩ : ∃ N : Nat, τ 4 h = N := ⟨(τ 4 h).toNat, by have : (0 : Int) ≤ τ 4 h ∧ τ 4 h ≤ 20 := hI 4 h; omega⟩
  have hM2 : (τ 4 h).toNat = M := by omega
  have hM3 : M ≤ 20 := by have : (0 : Int) ≤ τ 4 h ∧ τ 4 h ≤ 20 := hI 4 h; omega
  refine lv_lload_n hx hb dX1_digestOnto_0 rfl (lv_at hl 1 rfl) ?_
  refine lv_lstore_n (lv' := [(3, .long (lL (a))), (0, .ref (ad 11 h)), (1, .long (lL (a)))]) hx hb dX1_digestOnto_1 rfl hl (by decide) rfl (fun ls hl => ?_)
  refine z_iconst hx hb dX1_digestOnto_2 ?_
  refine lv_istore (lv' := [(5, .int (iI (0))), (3, .long (lL (a))), (0, .ref (ad 11 h)), (1, .long (lL (a)))]) hx hb dX1_digestOnto_3 hl (by decide) rfl (fun ls hl => ?_)
  have lp5 : ∀ (n5 k : Nat) (x3 x5 : Int), x3 = fo (fun k d => 31 * (31 * d + τ 2 (20 * h + k)) + τ 3 (20 * h + k)) a k → x5 = (k : Int) → k ≤ N → N + 1 ≤ k + n5 → ∀ ls : Array Slot, lv_has ls 6 [(3, .long (lL (x3))), (5, .int (iI (x5))), (0, .ref (ad 11 h))] → W p l e { frames := 2, cells := 0, slots := 0, locals := 48 } s m [.ref (ad 11 h), .long (lL (a))].toArray below meth c s.heap [] 0 0 (MQ below (rL (dgHole τ h a)) [.ref (ad 11 h), .long (lL (a))].toArray s 0 0 (NoA)) (F0 m 5 ls []) := by
    intro n5
    induction n5 with
    | zero => intro k x3 x5  ex3 ex5 hk1 hk2; exact absurd hk2 (by omega)
    | succ n5 ih5 =>
      intro k x3 x5  ex3 ex5 hk1 hk2  ls hl
      subst ex3
      subst ex5
      refine lv_iload hx hb dX1_digestOnto_5 (lv_at hl 1 rfl) ?_
      refine lv_aload_n hx hb dX1_digestOnto_7 rfl (lv_at hl 2 rfl) ?_
      refine y_get (C := RX1) (T := TX1) (N := 8) (ref := "CoreShed$Hole") (ci := 1) hx hb hts hinX1 hown hK (cw11 hW (i := h) (by omega)) rfl 5 (by decide) (hts _ (by decide +kernel)) rfl (v := .int (iI (τ 1 h))) rfl dX1_digestOnto_8 ?_
      have r1 : (0 : Int) ≤ τ 1 h ∧ τ 1 h ≤ 20 := hI 1 h
      refine z_icmp_ge (tgt := 44) hx hb (by omega) (by omega) dX1_digestOnto_11 (by decide) (fun c2 => ?_) (fun c2 => ?_)
      · refine z_iconst hx hb dX1_digestOnto_44 ?_
        refine lv_istore (lv' := [(5, .int (iI (0))), (3, .long (lL (fo (fun k d => 31 * (31 * d + τ 2 (20 * h + k)) + τ 3 (20 * h + k)) a k))), (0, .ref (ad 11 h))]) hx hb dX1_digestOnto_45 hl (by decide) rfl (fun ls hl => ?_)
        have lp47 : ∀ (n47 i : Nat) (x3 x5 : Int), x3 = fo (fun k d => 31 * d + τ 5 (20 * h + k)) (dgRun τ h a) i → x5 = (i : Int) → i ≤ M → M + 1 ≤ i + n47 → ∀ ls : Array Slot, lv_has ls 6 [(3, .long (lL (x3))), (5, .int (iI (x5))), (0, .ref (ad 11 h))] → W p l e { frames := 2, cells := 0, slots := 0, locals := 48 } s m [.ref (ad 11 h), .long (lL (a))].toArray below meth c s.heap [] 0 0 (MQ below (rL (dgHole τ h a)) [.ref (ad 11 h), .long (lL (a))].toArray s 0 0 (NoA)) (F0 m 47 ls []) := by
          intro n47
          induction n47 with
          | zero => intro i x3 x5  ex3 ex5 hk1 hk2; exact absurd hk2 (by omega)
          | succ n47 ih47 =>
            intro i x3 x5  ex3 ex5 hk1 hk2  ls hl
            subst ex3
            subst ex5
            refine lv_iload hx hb dX1_digestOnto_47 (lv_at hl 1 rfl) ?_
            refine lv_aload_n hx hb dX1_digestOnto_49 rfl (lv_at hl 2 rfl) ?_
            refine y_get (C := RX1) (T := TX1) (N := 8) (ref := "CoreShed$Hole") (ci := 1) hx hb hts hinX1 hown hK (cw11 hW (i := h) (by omega)) rfl 6 (by decide) (hts _ (by decide +kernel)) rfl (v := .int (iI (τ 4 h))) rfl dX1_digestOnto_50 ?_
            have r3 : (0 : Int) ≤ τ 4 h ∧ τ 4 h ≤ 20 := hI 4 h
            refine z_icmp_ge (tgt := 75) hx hb (by omega) (by omega) dX1_digestOnto_53 (by decide) (fun c4 => ?_) (fun c4 => ?_)
            · refine lv_aload_n hx hb dX1_digestOnto_75 rfl (lv_at hl 2 rfl) ?_
              refine y_get (C := RX1) (T := TX1) (N := 8) (ref := "CoreShed$Hole") (ci := 1) hx hb hts hinX1 hown hK (cw11 hW (i := h) (by omega)) rfl 4 (by decide) (hts _ (by decide +kernel)) rfl (v := .ref (ad 15 (2 * h + 1))) rfl dX1_digestOnto_76 ?_
              refine lv_aload_n hx hb dX1_digestOnto_79 rfl (lv_at hl 2 rfl) ?_
              refine y_get (C := RX1) (T := TX1) (N := 8) (ref := "CoreShed$Hole") (ci := 1) hx hb hts hinX1 hown hK (cw11 hW (i := h) (by omega)) rfl 3 (by decide) (hts _ (by decide +kernel)) rfl (v := .ref (ad 15 (2 * h))) rfl dX1_digestOnto_80 ?_
              refine lv_lload_n hx hb dX1_digestOnto_83 rfl (lv_at hl 0 rfl) ?_
              refine c_callL (n := 1) (As := [.long (lL (fo (fun k d => 31 * d + τ 5 (20 * h + k)) (dgRun τ h a) i))]) (rest := [.ref (ad 15 (2 * h + 1))]) hx hb hml hts hown hK hNW hW (va_recv hK (cw15 hW (i := 2 * h) (by omega)) (ci := 2) (q0 := 0) rfl rfl) (c2_digestOnto l D cT ad τ ρ hI (2 * h) (by omega) (fo (fun k d => 31 * d + τ 5 (20 * h + k)) (dgRun τ h a) i)) gX1_digestOnto_X2_digestOnto rfl rfl rfl (by decide +kernel) ⟨by decide, by decide⟩ rfl hl.1 rfl (Nat.le_of_ble_eq_true rfl) ⟨Nat.zero_le _, Nat.zero_le _⟩ dX1_digestOnto_84 ?_
              refine c_callL (n := 1) (As := [.long (lL (dgLog τ (2 * h) (fo (fun k d => 31 * d + τ 5 (20 * h + k)) (dgRun τ h a) i)))]) (rest := []) hx hb hml hts hown hK hNW hW (va_recv hK (cw15 hW (i := 2 * h + 1) (by omega)) (ci := 2) (q0 := 0) rfl rfl) (c2_digestOnto l D cT ad τ ρ hI (2 * h + 1) (by omega) (dgLog τ (2 * h) (fo (fun k d => 31 * d + τ 5 (20 * h + k)) (dgRun τ h a) i))) gX1_digestOnto_X2_digestOnto rfl rfl rfl (by decide +kernel) ⟨by decide, by decide⟩ rfl hl.1 rfl (Nat.le_of_ble_eq_true rfl) ⟨Nat.zero_le _, Nat.zero_le _⟩ dX1_digestOnto_87 ?_
              exact s_lret hx hb hr hlocks (by unfold dgHole; rw [show fo (fun k d => 31 * d + τ 5 (20 * h + k)) (dgRun τ h a) i = dgMark τ h (dgRun τ h a) from by unfold dgMark; rw [hM2, show M = i by omega]]; rfl) dX1_digestOnto_90
            · refine lv_lload_n hx hb dX1_digestOnto_56 rfl (lv_at hl 0 rfl) ?_
              refine lv_aload_n hx hb dX1_digestOnto_57 rfl (lv_at hl 2 rfl) ?_
              refine y_get (C := RX1) (T := TX1) (N := 8) (ref := "CoreShed$Hole") (ci := 1) hx hb hts hinX1 hown hK (cw11 hW (i := h) (by omega)) rfl 2 (by decide) (hts _ (by decide +kernel)) rfl (v := .ref (ad 14 h)) rfl dX1_digestOnto_58 ?_
              refine lv_iload hx hb dX1_digestOnto_61 (lv_at hl 1 rfl) ?_
              refine y_iald (j := i) hx hb hK 0 (cw14 hW (i := h) (by omega)) rfl (by omega) (by omega) (by decide) dX1_digestOnto_63 ?_
              have r5 : (0 : Int) ≤ τ 5 (20 * h + i) ∧ τ 5 (20 * h + i) ≤ 100000 := hI 5 (20 * h + i)
              refine z_i2l hx hb (by omega) dX1_digestOnto_64 ?_
              refine s_callLN (n := 2) (As := [.long (lL (fo (fun k d => 31 * d + τ 5 (20 * h + k)) (dgRun τ h a) i)), .long (lL (τ 5 (20 * h + i)))]) (rest := []) hx hb hml hts hown (c7_mixed l (fo (fun k d => 31 * d + τ 5 (20 * h + k)) (dgRun τ h a) i) (τ 5 (20 * h + i))) gX1_digestOnto_X7_mixed_n45 rfl rfl rfl hNW.2.2.2.2.2.2.2.1 (hts (.initialized RX7) (by decide +kernel)) (hts (.static yX7_mixed) (by decide +kernel)) (by decide +kernel) ⟨by decide, by decide⟩ rfl hl.1 rfl (Nat.le_of_ble_eq_true rfl) ⟨Nat.zero_le _, Nat.zero_le _⟩ dX1_digestOnto_65 ?_
              refine lv_lstore_n (lv' := [(3, .long (lL (31 * (fo (fun k d => 31 * d + τ 5 (20 * h + k)) (dgRun τ h a) i) + (τ 5 (20 * h + i))))), (5, .int (iI ((i : Int)))), (0, .ref (ad 11 h))]) hx hb dX1_digestOnto_68 rfl hl (by decide) rfl (fun ls hl => ?_)
              refine z_iinc (k := 1) (lv' := [(5, .int (iI ((i : Int) + 1))), (3, .long (lL (31 * (fo (fun k d => 31 * d + τ 5 (20 * h + k)) (dgRun τ h a) i) + (τ 5 (20 * h + i))))), (0, .ref (ad 11 h))]) hx hb dX1_digestOnto_69 hl rfl (by decide) rfl (fun ls hl => ?_)
              refine lv_goto (tgt := 47) hx hb dX1_digestOnto_72 (by decide) ?_
              exact ih47 (i + 1) (31 * (fo (fun k d => 31 * d + τ 5 (20 * h + k)) (dgRun τ h a) i) + (τ 5 (20 * h + i))) ((i : Int) + 1)  rfl (by omega) (by omega) (by omega)  ls (lv_sub hl [1, 0, 2] rfl)
        exact lp47 (M + 1) 0 (fo (fun k d => 31 * (31 * d + τ 2 (20 * h + k)) + τ 3 (20 * h + k)) a k) 0  (by unfold dgRun; rw [hN2, show N = k by omega]; rfl) (by omega) (by omega) (by omega)  ls (lv_sub hl [1, 0, 2] rfl)
      · refine lv_lload_n hx hb dX1_digestOnto_14 rfl (lv_at hl 0 rfl) ?_
        refine lv_aload_n hx hb dX1_digestOnto_15 rfl (lv_at hl 2 rfl) ?_
        refine y_get (C := RX1) (T := TX1) (N := 8) (ref := "CoreShed$Hole") (ci := 1) hx hb hts hinX1 hown hK (cw11 hW (i := h) (by omega)) rfl 0 (by decide) (hts _ (by decide +kernel)) rfl (v := .ref (ad 12 h)) rfl dX1_digestOnto_16 ?_
        refine lv_iload hx hb dX1_digestOnto_19 (lv_at hl 1 rfl) ?_
        refine y_iald (j := k) hx hb hK 0 (cw12 hW (i := h) (by omega)) rfl (by omega) (by omega) (by decide) dX1_digestOnto_21 ?_
        have r6 : (0 : Int) ≤ τ 2 (20 * h + k) ∧ τ 2 (20 * h + k) ≤ 1000 := hI 2 (20 * h + k)
        refine z_i2l hx hb (by omega) dX1_digestOnto_22 ?_
        refine s_callLN (n := 2) (As := [.long (lL (fo (fun k d => 31 * (31 * d + τ 2 (20 * h + k)) + τ 3 (20 * h + k)) a k)), .long (lL (τ 2 (20 * h + k)))]) (rest := []) hx hb hml hts hown (c7_mixed l (fo (fun k d => 31 * (31 * d + τ 2 (20 * h + k)) + τ 3 (20 * h + k)) a k) (τ 2 (20 * h + k))) gX1_digestOnto_X7_mixed_n45 rfl rfl rfl hNW.2.2.2.2.2.2.2.1 (hts (.initialized RX7) (by decide +kernel)) (hts (.static yX7_mixed) (by decide +kernel)) (by decide +kernel) ⟨by decide, by decide⟩ rfl hl.1 rfl (Nat.le_of_ble_eq_true rfl) ⟨Nat.zero_le _, Nat.zero_le _⟩ dX1_digestOnto_23 ?_
        refine lv_aload_n hx hb dX1_digestOnto_26 rfl (lv_at hl 2 rfl) ?_
        refine y_get (C := RX1) (T := TX1) (N := 8) (ref := "CoreShed$Hole") (ci := 1) hx hb hts hinX1 hown hK (cw11 hW (i := h) (by omega)) rfl 1 (by decide) (hts _ (by decide +kernel)) rfl (v := .ref (ad 13 h)) rfl dX1_digestOnto_27 ?_
        refine lv_iload hx hb dX1_digestOnto_30 (lv_at hl 1 rfl) ?_
        refine y_iald (j := k) hx hb hK 0 (cw13 hW (i := h) (by omega)) rfl (by omega) (by omega) (by decide) dX1_digestOnto_32 ?_
        have r7 : (0 : Int) ≤ τ 3 (20 * h + k) ∧ τ 3 (20 * h + k) ≤ 1000 := hI 3 (20 * h + k)
        refine z_i2l hx hb (by omega) dX1_digestOnto_33 ?_
        refine s_callLN (n := 2) (As := [.long (lL (31 * (fo (fun k d => 31 * (31 * d + τ 2 (20 * h + k)) + τ 3 (20 * h + k)) a k) + (τ 2 (20 * h + k)))), .long (lL (τ 3 (20 * h + k)))]) (rest := []) hx hb hml hts hown (c7_mixed l (31 * (fo (fun k d => 31 * (31 * d + τ 2 (20 * h + k)) + τ 3 (20 * h + k)) a k) + (τ 2 (20 * h + k))) (τ 3 (20 * h + k))) gX1_digestOnto_X7_mixed_n45 rfl rfl rfl hNW.2.2.2.2.2.2.2.1 (hts (.initialized RX7) (by decide +kernel)) (hts (.static yX7_mixed) (by decide +kernel)) (by decide +kernel) ⟨by decide, by decide⟩ rfl hl.1 rfl (Nat.le_of_ble_eq_true rfl) ⟨Nat.zero_le _, Nat.zero_le _⟩ dX1_digestOnto_34 ?_
        refine lv_lstore_n (lv' := [(3, .long (lL (31 * (31 * (fo (fun k d => 31 * (31 * d + τ 2 (20 * h + k)) + τ 3 (20 * h + k)) a k) + (τ 2 (20 * h + k))) + (τ 3 (20 * h + k))))), (5, .int (iI ((k : Int)))), (0, .ref (ad 11 h))]) hx hb dX1_digestOnto_37 rfl hl (by decide) rfl (fun ls hl => ?_)
        refine z_iinc (k := 1) (lv' := [(5, .int (iI ((k : Int) + 1))), (3, .long (lL (31 * (31 * (fo (fun k d => 31 * (31 * d + τ 2 (20 * h + k)) + τ 3 (20 * h + k)) a k) + (τ 2 (20 * h + k))) + (τ 3 (20 * h + k))))), (0, .ref (ad 11 h))]) hx hb dX1_digestOnto_38 hl rfl (by decide) rfl (fun ls hl => ?_)
        refine lv_goto (tgt := 5) hx hb dX1_digestOnto_41 (by decide) ?_
        exact ih5 (k + 1) (31 * (31 * (fo (fun k d => 31 * (31 * d + τ 2 (20 * h + k)) + τ 3 (20 * h + k)) a k) + (τ 2 (20 * h + k))) + (τ 3 (20 * h + k))) ((k : Int) + 1)  rfl (by omega) (by omega) (by omega)  ls (lv_sub hl [1, 0, 2] rfl)
  exact lp5 (N + 1) 0 a 0  rfl (by omega) (by omega) (by omega)  ls (lv_sub hl [1, 0, 2] rfl)
set_option maxHeartbeats 4000000 in
set_option maxRecDepth 100000 in
theorem c6_unitsWithin (l : Launch) (D : va_G) (cT : Nat → ClassId) (ad : Adr) (τ ρ : Tau) (hI : Rng τ) (j : Nat) (hlj : (j : Int) < τ 12 0) (x : Int) (h_x : I32 x) (a : Int) (h_a : I32 a) (b : Int) (h_b : I32 b) (hab : 0 ≤ a ∧ a ≤ 20000 ∧ 0 ≤ b ∧ b ≤ 20000) : Met l yX6_unitsWithin wsX6_unitsWithin { frames := 2, cells := 0, slots := 0, locals := 44 } (cPc D cT ad τ ρ [.ref (ad 18 j), .int (iI (x)), .int (iI (a)), .int (iI (b))]) (rS (uwI τ j x a b)) 0 0 (NoA) := by
  refine c_start (by decide) rfl (Nat.le_of_ble_eq_true rfl) ?_
  intro p e s m below meth c hx hb hr hlocks hml hts hown hW hK hNW ls hl
  have hinX6 : ∀ w ∈ wsX60, w ∈ wsX6_unitsWithin := by decide +kernel
  have hl : lv_has ls 4 [(0, .ref (ad 18 j)), (1, .int (iI (x))), (2, .int (iI (a))), (3, .int (iI (b)))] := hl
  refine lv_aload_n hx hb dX6_unitsWithin_0 rfl (lv_at hl 0 rfl) ?_
  refine y_get (C := RX6) (T := TX6) (N := 4) (ref := "CoreShed$Sample") (ci := 6) hx hb hts hinX6 hown hK (cw18 hW (i := j) (by omega)) rfl 0 (by decide) (hts _ (by decide +kernel)) rfl (v := .int (iI (τ 13 j))) rfl dX6_unitsWithin_1 ?_
  have r1 : (0 : Int) ≤ τ 13 j ∧ τ 13 j ≤ 3 := hI 13 j
  refine lv_iload_n hx hb dX6_unitsWithin_4 rfl (lv_at hl 1 rfl) ?_
  refine z_icmp_ne (tgt := 24) hx hb (by omega) (by omega) dX6_unitsWithin_5 (by decide) (fun c2 => ?_) (fun c2 => ?_)
  · refine z_iconst hx hb dX6_unitsWithin_24 ?_
    exact s_iret hx hb hr hlocks (by unfold uwI; (first | (rw [if_pos (by omega)]; exact cm_comm _ _ _ _) | rw [if_neg (by omega)])) dX6_unitsWithin_25
  · refine lv_aload_n hx hb dX6_unitsWithin_8 rfl (lv_at hl 0 rfl) ?_
    refine y_get (C := RX6) (T := TX6) (N := 4) (ref := "CoreShed$Sample") (ci := 6) hx hb hts hinX6 hown hK (cw18 hW (i := j) (by omega)) rfl 1 (by decide) (hts _ (by decide +kernel)) rfl (v := .int (iI (τ 14 j))) rfl dX6_unitsWithin_9 ?_
    have r3 : (0 : Int) ≤ τ 14 j ∧ τ 14 j ≤ 20000 := hI 14 j
    refine lv_aload_n hx hb dX6_unitsWithin_12 rfl (lv_at hl 0 rfl) ?_
    refine y_get (C := RX6) (T := TX6) (N := 4) (ref := "CoreShed$Sample") (ci := 6) hx hb hts hinX6 hown hK (cw18 hW (i := j) (by omega)) rfl 2 (by decide) (hts _ (by decide +kernel)) rfl (v := .int (iI (τ 15 j))) rfl dX6_unitsWithin_13 ?_
    have r4 : (0 : Int) ≤ τ 15 j ∧ τ 15 j ≤ 20000 := hI 15 j
    refine lv_iload_n hx hb dX6_unitsWithin_16 rfl (lv_at hl 2 rfl) ?_
    refine lv_iload_n hx hb dX6_unitsWithin_17 rfl (lv_at hl 3 rfl) ?_
    refine s_callN (n := 4) (As := [.int (iI (τ 14 j)), .int (iI (τ 15 j)), .int (iI (a)), .int (iI (b))]) (rest := []) hx hb hml hts hown (c7_unitsInCommon l (τ 14 j) (by omega) (τ 15 j) (by omega) a (by omega) b (by omega) (by omega)) gX6_unitsWithin_X7_unitsInCommon_n24 rfl rfl rfl hNW.2.2.2.2.2.2.2.2.2.1 (hts (.initialized RX7) (by decide +kernel)) (hts (.static yX7_unitsInCommon) (by decide +kernel)) (by decide +kernel) ⟨by decide, by decide⟩ rfl hl.1 rfl (Nat.le_of_ble_eq_true rfl) ⟨Nat.zero_le _, Nat.zero_le _⟩ dX6_unitsWithin_18 ?_
    refine lv_goto (tgt := 25) hx hb dX6_unitsWithin_21 (by decide) ?_
    exact s_iret hx hb hr hlocks (by unfold uwI; (first | (rw [if_pos (by omega)]; exact cm_comm _ _ _ _) | rw [if_neg (by omega)])) dX6_unitsWithin_25
set_option maxHeartbeats 4000000 in
set_option maxRecDepth 100000 in
theorem c6_digestOnto (l : Launch) (D : va_G) (cT : Nat → ClassId) (ad : Adr) (τ ρ : Tau) (hI : Rng τ) (j : Nat) (hlj : (j : Int) < τ 12 0) (a : Int)  : Met l yX6_digestOnto wsX6_digestOnto { frames := 1, cells := 0, slots := 0, locals := 23 } (cPc D cT ad τ ρ [.ref (ad 18 j), .long (lL (a))]) (rL (31 * (31 * (31 * (31 * a + τ 13 j) + τ 14 j) + τ 15 j) + τ 16 j)) 0 0 (NoA) := by
  refine c_start (by decide) rfl (Nat.le_of_ble_eq_true rfl) ?_
  intro p e s m below meth c hx hb hr hlocks hml hts hown hW hK hNW ls hl
  have hinX6 : ∀ w ∈ wsX60, w ∈ wsX6_digestOnto := by decide +kernel
  have hl : lv_has ls 3 [(0, .ref (ad 18 j)), (1, .long (lL (a)))] := hl
  refine lv_lload_n hx hb dX6_digestOnto_0 rfl (lv_at hl 1 rfl) ?_
  refine lv_aload_n hx hb dX6_digestOnto_1 rfl (lv_at hl 0 rfl) ?_
  refine y_get (C := RX6) (T := TX6) (N := 4) (ref := "CoreShed$Sample") (ci := 6) hx hb hts hinX6 hown hK (cw18 hW (i := j) (by omega)) rfl 0 (by decide) (hts _ (by decide +kernel)) rfl (v := .int (iI (τ 13 j))) rfl dX6_digestOnto_2 ?_
  have r1 : (0 : Int) ≤ τ 13 j ∧ τ 13 j ≤ 3 := hI 13 j
  refine z_i2l hx hb (by omega) dX6_digestOnto_5 ?_
  refine s_callLN (n := 2) (As := [.long (lL (a)), .long (lL (τ 13 j))]) (rest := []) hx hb hml hts hown (c7_mixed l a (τ 13 j)) gX6_digestOnto_X7_mixed_n28 rfl rfl rfl hNW.2.2.2.2.2.2.2.2.2.2 (hts (.initialized RX7) (by decide +kernel)) (hts (.static yX7_mixed) (by decide +kernel)) (by decide +kernel) ⟨by decide, by decide⟩ rfl hl.1 rfl (Nat.le_of_ble_eq_true rfl) ⟨Nat.zero_le _, Nat.zero_le _⟩ dX6_digestOnto_6 ?_
  refine lv_aload_n hx hb dX6_digestOnto_9 rfl (lv_at hl 0 rfl) ?_
  refine y_get (C := RX6) (T := TX6) (N := 4) (ref := "CoreShed$Sample") (ci := 6) hx hb hts hinX6 hown hK (cw18 hW (i := j) (by omega)) rfl 1 (by decide) (hts _ (by decide +kernel)) rfl (v := .int (iI (τ 14 j))) rfl dX6_digestOnto_10 ?_
  have r2 : (0 : Int) ≤ τ 14 j ∧ τ 14 j ≤ 20000 := hI 14 j
  refine z_i2l hx hb (by omega) dX6_digestOnto_13 ?_
  refine s_callLN (n := 2) (As := [.long (lL (31 * a + (τ 13 j))), .long (lL (τ 14 j))]) (rest := []) hx hb hml hts hown (c7_mixed l (31 * a + (τ 13 j)) (τ 14 j)) gX6_digestOnto_X7_mixed_n28 rfl rfl rfl hNW.2.2.2.2.2.2.2.2.2.2 (hts (.initialized RX7) (by decide +kernel)) (hts (.static yX7_mixed) (by decide +kernel)) (by decide +kernel) ⟨by decide, by decide⟩ rfl hl.1 rfl (Nat.le_of_ble_eq_true rfl) ⟨Nat.zero_le _, Nat.zero_le _⟩ dX6_digestOnto_14 ?_
  refine lv_aload_n hx hb dX6_digestOnto_17 rfl (lv_at hl 0 rfl) ?_
  refine y_get (C := RX6) (T := TX6) (N := 4) (ref := "CoreShed$Sample") (ci := 6) hx hb hts hinX6 hown hK (cw18 hW (i := j) (by omega)) rfl 2 (by decide) (hts _ (by decide +kernel)) rfl (v := .int (iI (τ 15 j))) rfl dX6_digestOnto_18 ?_
  have r3 : (0 : Int) ≤ τ 15 j ∧ τ 15 j ≤ 20000 := hI 15 j
  refine z_i2l hx hb (by omega) dX6_digestOnto_21 ?_
  refine s_callLN (n := 2) (As := [.long (lL (31 * (31 * a + (τ 13 j)) + (τ 14 j))), .long (lL (τ 15 j))]) (rest := []) hx hb hml hts hown (c7_mixed l (31 * (31 * a + (τ 13 j)) + (τ 14 j)) (τ 15 j)) gX6_digestOnto_X7_mixed_n28 rfl rfl rfl hNW.2.2.2.2.2.2.2.2.2.2 (hts (.initialized RX7) (by decide +kernel)) (hts (.static yX7_mixed) (by decide +kernel)) (by decide +kernel) ⟨by decide, by decide⟩ rfl hl.1 rfl (Nat.le_of_ble_eq_true rfl) ⟨Nat.zero_le _, Nat.zero_le _⟩ dX6_digestOnto_22 ?_
  refine lv_aload_n hx hb dX6_digestOnto_25 rfl (lv_at hl 0 rfl) ?_
  refine y_get (C := RX6) (T := TX6) (N := 4) (ref := "CoreShed$Sample") (ci := 6) hx hb hts hinX6 hown hK (cw18 hW (i := j) (by omega)) rfl 3 (by decide) (hts _ (by decide +kernel)) rfl (v := .int (iI (τ 16 j))) rfl dX6_digestOnto_26 ?_
  have r4 : (0 : Int) ≤ τ 16 j ∧ τ 16 j ≤ 4 := hI 16 j
  refine z_i2l hx hb (by omega) dX6_digestOnto_29 ?_
  refine s_callLN (n := 2) (As := [.long (lL (31 * (31 * (31 * a + (τ 13 j)) + (τ 14 j)) + (τ 15 j))), .long (lL (τ 16 j))]) (rest := []) hx hb hml hts hown (c7_mixed l (31 * (31 * (31 * a + (τ 13 j)) + (τ 14 j)) + (τ 15 j)) (τ 16 j)) gX6_digestOnto_X7_mixed_n28 rfl rfl rfl hNW.2.2.2.2.2.2.2.2.2.2 (hts (.initialized RX7) (by decide +kernel)) (hts (.static yX7_mixed) (by decide +kernel)) (by decide +kernel) ⟨by decide, by decide⟩ rfl hl.1 rfl (Nat.le_of_ble_eq_true rfl) ⟨Nat.zero_le _, Nat.zero_le _⟩ dX6_digestOnto_30 ?_
  exact s_lret hx hb hr hlocks (rfl) dX6_digestOnto_33
set_option maxHeartbeats 4000000 in
set_option maxRecDepth 100000 in
theorem c5_lower (l : Launch) (D : va_G) (cT : Nat → ClassId) (ad : Adr) (τ ρ : Tau) (hI : Rng τ) (b : Nat) (hlb : (b : Int) < τ 18 0) (q : Nat) (hlq : (q : Int) < τ 19 b) (hl16 : q < 16) : Met l yX5_lower wsX5_lower { frames := 1, cells := 0, slots := 0, locals := 21 } (cPc D cT ad τ ρ [.ref (ad 21 (16 * b + q))]) (rS (loO τ (16 * b + q))) 0 0 (NoA) := by
  refine c_start (by decide) rfl (Nat.le_of_ble_eq_true rfl) ?_
  intro p e s m below meth c hx hb hr hlocks hml hts hown hW hK hNW ls hl
  have hinX5 : ∀ w ∈ wsX50, w ∈ wsX5_lower := by decide +kernel
  have hl : lv_has ls 1 [(0, .ref (ad 21 (16 * b + q)))] := hl
  refine lv_aload_n hx hb dX5_lower_0 rfl (lv_at hl 0 rfl) ?_
  refine y_get (C := RX5) (T := TX5) (N := 5) (ref := "CoreShed$Place") (ci := 5) hx hb hts hinX5 hown hK (cw21 hW (b := b) (q := q) (by omega) (by omega) (by omega)) rfl 4 (by decide) (hts _ (by decide +kernel)) rfl (v := .int (iI (τ 24 (16 * b + q)))) rfl dX5_lower_1 ?_
  have r1 : (-1000 : Int) ≤ τ 24 (16 * b + q) ∧ τ 24 (16 * b + q) ≤ 100000 := hI 24 (16 * b + q)
  refine z_iconst hx hb dX5_lower_4 ?_
  refine z_mmax (own := RX5) hx hb (hml.trans hl.1.symm) hown (hts (.methodLink RX5 22 Lib.Math.max.name) (by decide +kernel)) (hts (.static Lib.Math.max.name) (by decide +kernel)) (hts (.initialized "java/lang/Math") (by decide +kernel)) (hts (.code Lib.Math.max.name Lib.Math.max.code 2 (some .int)) (by decide +kernel)) (by decide) (Nat.le_of_ble_eq_true rfl) (Nat.zero_le _) (Nat.zero_le _) (by omega) (by omega) dX5_lower_5 ?_
  exact s_iret hx hb hr hlocks (by unfold loO; split <;> omega) dX5_lower_8
set_option maxHeartbeats 4000000 in
set_option maxRecDepth 100000 in
theorem c5_upper (l : Launch) (D : va_G) (cT : Nat → ClassId) (ad : Adr) (τ ρ : Tau) (hI : Rng τ) (b : Nat) (hlb : (b : Int) < τ 18 0) (q : Nat) (hlq : (q : Int) < τ 19 b) (hl16 : q < 16) : Met l yX5_upper wsX5_upper { frames := 0, cells := 0, slots := 0, locals := 0 } (cPc D cT ad τ ρ [.ref (ad 21 (16 * b + q))]) (rS (upO τ (16 * b + q))) 0 0 (NoA) := by
  refine c_start (by decide) rfl (Nat.le_of_ble_eq_true rfl) ?_
  intro p e s m below meth c hx hb hr hlocks hml hts hown hW hK hNW ls hl
  have hinX5 : ∀ w ∈ wsX50, w ∈ wsX5_upper := by decide +kernel
  have hl : lv_has ls 1 [(0, .ref (ad 21 (16 * b + q)))] := hl
  refine lv_aload_n hx hb dX5_upper_0 rfl (lv_at hl 0 rfl) ?_
  refine y_get (C := RX5) (T := TX5) (N := 5) (ref := "CoreShed$Place") (ci := 5) hx hb hts hinX5 hown hK (cw21 hW (b := b) (q := q) (by omega) (by omega) (by omega)) rfl 4 (by decide) (hts _ (by decide +kernel)) rfl (v := .int (iI (τ 24 (16 * b + q)))) rfl dX5_upper_1 ?_
  have r1 : (-1000 : Int) ≤ τ 24 (16 * b + q) ∧ τ 24 (16 * b + q) ≤ 100000 := hI 24 (16 * b + q)
  refine z_if_ge (tgt := 17) hx hb (by omega) dX5_upper_4 (by decide) (fun c2 => ?_) (fun c2 => ?_)
  · refine lv_aload_n hx hb dX5_upper_17 rfl (lv_at hl 0 rfl) ?_
    refine y_get (C := RX5) (T := TX5) (N := 5) (ref := "CoreShed$Place") (ci := 5) hx hb hts hinX5 hown hK (cw21 hW (b := b) (q := q) (by omega) (by omega) (by omega)) rfl 4 (by decide) (hts _ (by decide +kernel)) rfl (v := .int (iI (τ 24 (16 * b + q)))) rfl dX5_upper_18 ?_
    exact s_iret hx hb hr hlocks (by unfold upO; repeat (first | rw [if_pos (by first | assumption | omega)] | rw [if_neg (by first | assumption | omega | (intro hk; exact hk (by assumption)))])) dX5_upper_21
  · refine lv_aload_n hx hb dX5_upper_7 rfl (lv_at hl 0 rfl) ?_
    refine y_get (C := RX5) (T := TX5) (N := 5) (ref := "CoreShed$Place") (ci := 5) hx hb hts hinX5 hown hK (cw21 hW (b := b) (q := q) (by omega) (by omega) (by omega)) rfl 4 (by decide) (hts _ (by decide +kernel)) rfl (v := .int (iI (τ 24 (16 * b + q)))) rfl dX5_upper_8 ?_
    refine z_ineg hx hb dX5_upper_11 ?_
    refine z_iconst hx hb dX5_upper_12 ?_
    refine z_isub hx hb dX5_upper_13 ?_
    refine lv_goto (tgt := 21) hx hb dX5_upper_14 (by decide) ?_
    exact s_iret hx hb hr hlocks (by unfold upO; repeat (first | rw [if_pos (by first | assumption | omega)] | rw [if_neg (by first | assumption | omega | (intro hk; exact hk (by assumption)))])) dX5_upper_21
set_option maxHeartbeats 4000000 in
set_option maxRecDepth 100000 in
theorem c5_endOn (l : Launch) (D : va_G) (cT : Nat → ClassId) (ad : Adr) (τ ρ : Tau) (hI : Rng τ) (b : Nat) (hlb : (b : Int) < τ 18 0) (q : Nat) (hlq : (q : Int) < τ 19 b) (u : Int) (h_u : I32 u) (hl16 : q < 16) : Met l yX5_endOn wsX5_endOn { frames := 2, cells := 0, slots := 0, locals := 41 } (cPc D cT ad τ ρ [.ref (ad 21 (16 * b + q)), .int (iI (u))]) (rS (if u = 0 then loO τ (16 * b + q) else upO τ (16 * b + q))) 0 0 (NoA) := by
  refine c_start (by decide) rfl (Nat.le_of_ble_eq_true rfl) ?_
  intro p e s m below meth c hx hb hr hlocks hml hts hown hW hK hNW ls hl
  have hl : lv_has ls 2 [(0, .ref (ad 21 (16 * b + q))), (1, .int (iI (u)))] := hl
  refine lv_iload_n hx hb dX5_endOn_0 rfl (lv_at hl 1 rfl) ?_
  refine z_if_ne (tgt := 11) hx hb (by omega) dX5_endOn_1 (by decide) (fun c1 => ?_) (fun c1 => ?_)
  · refine lv_aload_n hx hb dX5_endOn_11 rfl (lv_at hl 0 rfl) ?_
    refine c_call (n := 0) (As := []) (rest := []) hx hb hml hts hown hK hNW hW (va_recv hK (cw21 hW (b := b) (q := q) (by omega) (by omega) (by omega)) (ci := 5) (q0 := 0) rfl rfl) (c5_upper l D cT ad τ ρ hI b (by omega) q (by omega) (by omega)) gX5_endOn_X5_upper rfl rfl rfl (by decide +kernel) ⟨by decide, by decide⟩ rfl hl.1 rfl (Nat.le_of_ble_eq_true rfl) ⟨Nat.zero_le _, Nat.zero_le _⟩ dX5_endOn_12 ?_
    have r2 := up_r hI (16 * b + q)
    exact s_iret hx hb hr hlocks (by (first | rw [if_pos (by omega)] | rw [if_neg (by omega)])) dX5_endOn_15
  · refine lv_aload_n hx hb dX5_endOn_4 rfl (lv_at hl 0 rfl) ?_
    refine c_call (n := 0) (As := []) (rest := []) hx hb hml hts hown hK hNW hW (va_recv hK (cw21 hW (b := b) (q := q) (by omega) (by omega) (by omega)) (ci := 5) (q0 := 0) rfl rfl) (c5_lower l D cT ad τ ρ hI b (by omega) q (by omega) (by omega)) gX5_endOn_X5_lower rfl rfl rfl (by decide +kernel) ⟨by decide, by decide⟩ rfl hl.1 rfl (Nat.le_of_ble_eq_true rfl) ⟨Nat.zero_le _, Nat.zero_le _⟩ dX5_endOn_5 ?_
    have r3 := lo_r hI (16 * b + q)
    refine lv_goto (tgt := 15) hx hb dX5_endOn_8 (by decide) ?_
    exact s_iret hx hb hr hlocks (by (first | rw [if_pos (by omega)] | rw [if_neg (by omega)])) dX5_endOn_15
set_option maxHeartbeats 4000000 in
set_option maxRecDepth 100000 in
theorem c5_told (l : Launch) (D : va_G) (cT : Nat → ClassId) (ad : Adr) (τ ρ : Tau) (hI : Rng τ) (b : Nat) (hlb : (b : Int) < τ 18 0) (q : Nat) (hlq : (q : Int) < τ 19 b) (k : Int) (h_k : I32 k) (hl16 : q < 16) (hk : 0 ≤ k ∧ k ≤ 4) (hn : τ 23 (16 * b + q) = 0 → τ 24 (16 * b + q) = 0) : Met l yX5_told wsX5_told { frames := 0, cells := 0, slots := 0, locals := 0 } (cPc D cT ad τ ρ [.ref (ad 21 (16 * b + q)), .int (iI (k))]) (rS (abO τ (16 * b + q) k)) 0 0 (NoA) := by
  refine c_start (by decide) rfl (Nat.le_of_ble_eq_true rfl) ?_
  intro p e s m below meth c hx hb hr hlocks hml hts hown hW hK hNW ls hl
  have hinX5 : ∀ w ∈ wsX50, w ∈ wsX5_told := by decide +kernel
  have hl : lv_has ls 2 [(0, .ref (ad 21 (16 * b + q))), (1, .int (iI (k)))] := hl
  refine lv_iload_n hx hb dX5_told_0 rfl (lv_at hl 1 rfl) ?_
  rcases (show k = 0 ∨ k = 1 ∨ k = 2 ∨ k = 3 ∨ (k < 0 ∨ 3 < k) by omega) with k1 | k1 | k1 | k1 | k1
  · refine z_tabIn (tgt := 32) (off := 31) (k := 0) hx hb (by omega) dX5_told_1 (by omega) (by omega) (by decide +kernel) (by decide) ?_
    refine lv_aload_n hx hb dX5_told_32 rfl (lv_at hl 0 rfl) ?_
    refine y_get (C := RX5) (T := TX5) (N := 5) (ref := "CoreShed$Place") (ci := 5) hx hb hts hinX5 hown hK (cw21 hW (b := b) (q := q) (by omega) (by omega) (by omega)) rfl 0 (by decide) (hts _ (by decide +kernel)) rfl (v := .int (iI (τ 20 (16 * b + q)))) rfl dX5_told_33 ?_
    have r2 : (0 : Int) ≤ τ 20 (16 * b + q) ∧ τ 20 (16 * b + q) ≤ 3 := hI 20 (16 * b + q)
    exact s_iret hx hb hr hlocks (by unfold abO; repeat (first | rw [if_pos (by omega)] | rw [if_neg (by omega)]); first | done | omega) dX5_told_36
  · refine z_tabIn (tgt := 37) (off := 36) (k := 1) hx hb (by omega) dX5_told_1 (by omega) (by omega) (by decide +kernel) (by decide) ?_
    refine lv_aload_n hx hb dX5_told_37 rfl (lv_at hl 0 rfl) ?_
    refine y_get (C := RX5) (T := TX5) (N := 5) (ref := "CoreShed$Place") (ci := 5) hx hb hts hinX5 hown hK (cw21 hW (b := b) (q := q) (by omega) (by omega) (by omega)) rfl 1 (by decide) (hts _ (by decide +kernel)) rfl (v := .int (iI (τ 21 (16 * b + q)))) rfl dX5_told_38 ?_
    have r3 : (0 : Int) ≤ τ 21 (16 * b + q) ∧ τ 21 (16 * b + q) ≤ 100000 := hI 21 (16 * b + q)
    exact s_iret hx hb hr hlocks (by unfold abO; repeat (first | rw [if_pos (by omega)] | rw [if_neg (by omega)]); first | done | omega) dX5_told_41
  · refine z_tabIn (tgt := 42) (off := 41) (k := 2) hx hb (by omega) dX5_told_1 (by omega) (by omega) (by decide +kernel) (by decide) ?_
    refine lv_aload_n hx hb dX5_told_42 rfl (lv_at hl 0 rfl) ?_
    refine y_get (C := RX5) (T := TX5) (N := 5) (ref := "CoreShed$Place") (ci := 5) hx hb hts hinX5 hown hK (cw21 hW (b := b) (q := q) (by omega) (by omega) (by omega)) rfl 2 (by decide) (hts _ (by decide +kernel)) rfl (v := .int (iI (τ 22 (16 * b + q)))) rfl dX5_told_43 ?_
    have r4 : (0 : Int) ≤ τ 22 (16 * b + q) ∧ τ 22 (16 * b + q) ≤ 10000 := hI 22 (16 * b + q)
    exact s_iret hx hb hr hlocks (by unfold abO; repeat (first | rw [if_pos (by omega)] | rw [if_neg (by omega)]); first | done | omega) dX5_told_46
  · refine z_tabIn (tgt := 47) (off := 46) (k := 3) hx hb (by omega) dX5_told_1 (by omega) (by omega) (by decide +kernel) (by decide) ?_
    refine lv_aload_n hx hb dX5_told_47 rfl (lv_at hl 0 rfl) ?_
    refine y_get (C := RX5) (T := TX5) (N := 5) (ref := "CoreShed$Place") (ci := 5) hx hb hts hinX5 hown hK (cw21 hW (b := b) (q := q) (by omega) (by omega) (by omega)) rfl 3 (by decide) (hts _ (by decide +kernel)) rfl (v := .int (iI (τ 23 (16 * b + q)))) rfl dX5_told_48 ?_
    have r5 : (0 : Int) ≤ τ 23 (16 * b + q) ∧ τ 23 (16 * b + q) ≤ 1 := hI 23 (16 * b + q)
    refine z_if_eq (tgt := 58) hx hb (by omega) dX5_told_51 (by decide) (fun c6 => ?_) (fun c6 => ?_)
    · refine z_iconst hx hb dX5_told_58 ?_
      exact s_iret hx hb hr hlocks (by unfold abO; repeat (first | rw [if_pos (by omega)] | rw [if_neg (by omega)]); first | done | omega) dX5_told_59
    · refine z_iconst hx hb dX5_told_54 ?_
      refine lv_goto (tgt := 59) hx hb dX5_told_55 (by decide) ?_
      exact s_iret hx hb hr hlocks (by unfold abO; repeat (first | rw [if_pos (by omega)] | rw [if_neg (by omega)]); first | done | omega) dX5_told_59
  · refine z_tabOut (tgt := 60) hx hb (by omega) dX5_told_1 k1 (by decide) ?_
    refine lv_aload_n hx hb dX5_told_60 rfl (lv_at hl 0 rfl) ?_
    refine y_get (C := RX5) (T := TX5) (N := 5) (ref := "CoreShed$Place") (ci := 5) hx hb hts hinX5 hown hK (cw21 hW (b := b) (q := q) (by omega) (by omega) (by omega)) rfl 4 (by decide) (hts _ (by decide +kernel)) rfl (v := .int (iI (τ 24 (16 * b + q)))) rfl dX5_told_61 ?_
    have r7 : (-1000 : Int) ≤ τ 24 (16 * b + q) ∧ τ 24 (16 * b + q) ≤ 100000 := hI 24 (16 * b + q)
    exact s_iret hx hb hr hlocks (by unfold abO; rw [if_neg (by omega), if_neg (by omega), if_neg (by omega), if_neg (by omega), if_pos (by omega)]; split <;> first | rfl | (exact hn (by assumption))) dX5_told_64
