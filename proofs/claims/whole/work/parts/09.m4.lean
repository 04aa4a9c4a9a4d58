def tkB (τ : Tau) (x a b : Int) (k : Nat) : Bool := decide (τ 13 k = x ∧ ¬ cm a b (τ 14 k) (τ 15 k) = 0)
def frK (τ : Tau) (x a b : Int) (k : Nat) : Bool := decide (0 < rcO τ x.toNat a b) && !exs (tkB τ x a b) k
theorem frK_s (τ : Tau) (x a b : Int) (k : Nat) : frK τ x a b (k + 1) = (frK τ x a b k && !tkB τ x a b k) := by simp [frK, exs, Bool.and_assoc]
def frSO (τ : Tau) (x a b : Int) : Bool := frK τ x a b (τ 12 0).toNat
abbrev okSam (τ : Tau) (x a b : Int) : Prop := (0 ≤ x ∧ x < τ 0 0) ∧ (0 ≤ a ∧ a < b ∧ b ≤ enO τ x.toNat) ∧ frSO τ x a b = true ∧ ¬ τ 12 0 = 30
def spSam (τ : Tau) (x a b : Int) : Int := if ¬ (0 ≤ x ∧ x < τ 0 0) then -101 else if ¬ (0 ≤ a ∧ a < b ∧ b ≤ enO τ x.toNat) then -102 else if ¬ frSO τ x a b = true then -103 else if τ 12 0 = 30 then -104 else τ 12 0
def stSam (τ : Tau) (x a b : Int) : Tau := if okSam τ x a b then tu (tu (tu (tu (tu τ 13 (τ 12 0).toNat x) 14 (τ 12 0).toNat a) 15 (τ 12 0).toNat b) 16 (τ 12 0).toNat 4) 12 0 (τ 12 0 + 1) else τ
def mnI (a b : Int) : Int := if a < b then a else b
theorem mn_t {a b : Int} (h : a < b) : mnI a b = a := if_pos h
theorem mn_f {a b : Int} (h : ¬ a < b) : mnI a b = b := if_neg h
theorem mn_r {a b : Int} (h : 0 ≤ a ∧ a ≤ 100000) (h2 : 1 ≤ b) : 0 ≤ mnI a b ∧ mnI a b ≤ 100000 := by unfold mnI; split <;> omega
def cpS (τ : Tau) (x a b t u : Int) (k : Nat) : Int := if τ 13 k = x ∧ ¬ gaO τ k = -1 then (if u = 2 then cm a b (τ 14 k) (τ 15 k) else cm a b (τ 14 k) (τ 15 k) * mnI (if u = 0 then loO τ (gaO τ k).toNat else upO τ (gaO τ k).toNat) t) else 0
theorem cp_no {τ : Tau} {x a b t u : Int} {k : Nat} (h : ¬ (τ 13 k = x ∧ ¬ gaO τ k = -1)) : cpS τ x a b t u k = 0 := if_neg h
theorem cp_2 {τ : Tau} {x a b t u : Int} {k : Nat} (h : τ 13 k = x ∧ ¬ gaO τ k = -1) (hu : u = 2) : cpS τ x a b t u k = cm a b (τ 14 k) (τ 15 k) := by unfold cpS; rw [if_pos h, if_pos hu]
theorem cp_1 {τ : Tau} {x a b t u : Int} {k : Nat} (h : τ 13 k = x ∧ ¬ gaO τ k = -1) (hu : ¬ u = 2) : cpS τ x a b t u k = cm a b (τ 14 k) (τ 15 k) * mnI (if u = 0 then loO τ (gaO τ k).toNat else upO τ (gaO τ k).toNat) t := by unfold cpS; rw [if_pos h, if_neg hu]
def spComp (τ : Tau) (x a b t u : Int) : Int := if ¬ (0 ≤ x ∧ x < τ 0 0) then -101 else if ¬ ((0 ≤ a ∧ a < b ∧ b ≤ enO τ x.toNat) ∧ (1 ≤ t ∧ t ≤ 100000) ∧ (0 ≤ u ∧ u ≤ 2)) then -102 else sm (cpS τ x a b t u) (τ 12 0).toNat
def fo (f : Nat → Int → Int) (x : Int) : Nat → Int
  | 0 => x
  | n + 1 => f n (fo f x n)
def dgRun (τ : Tau) (h : Nat) (x : Int) : Int := fo (fun k d => 31 * (31 * d + τ 2 (20 * h + k)) + τ 3 (20 * h + k)) x (τ 1 h).toNat
def dgMark (τ : Tau) (h : Nat) (x : Int) : Int := fo (fun k d => 31 * d + τ 5 (20 * h + k)) x (τ 4 h).toNat
def dgLog (τ : Tau) (g : Nat) (x : Int) : Int := fo (fun k d => 31 * (31 * d + τ 9 (20 * g + k)) + τ 10 (20 * g + k)) x (τ 8 g).toNat
def dgHole (τ : Tau) (h : Nat) (x : Int) : Int := fo (fun j d => dgLog τ (2 * h + j) d) (dgMark τ h (dgRun τ h x)) 2
def dgTab (τ : Tau) (x : Int) : Int := fo (fun k d => 31 * d + τ 11 k) x 10
def dgSam (τ : Tau) (x : Int) : Int := fo (fun k d => 31 * (31 * (31 * (31 * d + τ 13 k) + τ 14 k) + τ 15 k) + τ 16 k) x (τ 12 0).toNat
def dgPl (τ : Tau) (q : Nat) (x : Int) : Int := fo (fun k d => 31 * d + abO τ q k) x 5
def dgBat (τ : Tau) (b : Nat) (x : Int) : Int := fo (fun k d => dgPl τ (16 * b + k) d) x (τ 19 b).toNat
def spDig (τ : Tau) : Int := 31 * (31 * fo (fun b d => dgBat τ b d) (dgSam τ (dgTab τ (fo (fun h d => dgHole τ h d) 173 (τ 0 0).toNat))) (τ 18 0).toNat + τ 25 0) + τ 25 1
theorem ab_r {τ : Tau} (hR : Rng τ) (q : Nat) (k : Int) : -100000 ≤ abO τ q k ∧ abO τ q k ≤ 100000 := by
  have h0 : (0 : Int) ≤ τ 20 q ∧ τ 20 q ≤ 3 := hR 20 q
  have h1 : (0 : Int) ≤ τ 21 q ∧ τ 21 q ≤ 100000 := hR 21 q
  have h2 : (0 : Int) ≤ τ 22 q ∧ τ 22 q ≤ 10000 := hR 22 q
  have h3 : (0 : Int) ≤ τ 23 q ∧ τ 23 q ≤ 1 := hR 23 q
  have h4 : (-1000 : Int) ≤ τ 24 q ∧ τ 24 q ≤ 100000 := hR 24 q
  unfold abO
  repeat' split
  all_goals omega
def pcO (τ : Tau) (h g i j : Nat) : Int := farI (thO τ (2 * h) i) (thO τ (2 * g) j) + τ 26 (21 * (i + 1) + j + 1)

set_option maxHeartbeats 4000000 in
set_option maxRecDepth 100000 in
theorem c8_swap (l : Launch) (D : va_G) (cI cZ : ClassId) (ad : Nat → Nat) (τ : Tau) (hI : Inv τ) (a : Int) (h_a : I32 a)  : Met l yX8_swap wsX8_swap { frames := 4, cells := 0, slots := 0, locals := 89 } (mPc D cI cZ ad τ [.ref (ad 0), .int (iI (a))]) (mQ D cI cZ ad (some (.int (iI (spSwap τ a)))) (τ)) 0 0 (MA ad) := by
  refine m_start (by decide) rfl (Nat.le_of_ble_eq_true rfl) ?_
  intro p e s m below meth c hx hb hr hlocks hml hts hown hW hK ls hl
  have hin8 : ∀ w ∈ wsX80, w ∈ wsX8_swap := by decide +kernel
  have hS : va_S (MA ad) s.heap s.heap [] := va_S.rf
  have hz : s.heap.size = s.heap.size := rfl
  have hR : Rng τ := hI.1
  have hl : lv_has ls 4 [(0, .ref (ad 0)), (1, .int (iI (a)))] := hl
  refine lv_aload_n hx hb dX8_swap_0 rfl (lv_at hl 0 rfl) ?_
  refine lv_iload_n hx hb dX8_swap_1 rfl (lv_at hl 1 rfl) ?_
  refine m_call (n := 1) (As := [.int (iI (a))]) (rest := []) hx hb hml hts hown hK hW (c8_isBatch l D cI cZ ad τ hI.1 a (by omega)) gX8_swap_X8_isBatch rfl rfl rfl (by decide +kernel) ⟨by decide, by decide⟩ rfl hl.1 rfl (Nat.le_of_ble_eq_true rfl) ⟨Nat.zero_le _, Nat.zero_le _⟩ dX8_swap_2 ?_
  have r1 := (show (0 : Int) ≤ τ 18 0 ∧ τ 18 0 ≤ 6 from hI.1 18 0)
  refine z_if_neB (tgt := 11) hx hb dX8_swap_5 (by decide) (fun c2 => ?_) (fun c2 => ?_)
  · refine lv_aload_n hx hb dX8_swap_11 rfl (lv_at hl 0 rfl) ?_
    refine lv_iload_n hx hb dX8_swap_12 rfl (lv_at hl 1 rfl) ?_
    refine m_call (n := 1) (As := [.int (iI (a))]) (rest := []) hx hb hml hts hown hK hW (c8_isTold l D cI cZ ad τ hI.1 a.toNat a (by omega) (by omega)) gX8_swap_X8_isTold rfl rfl rfl (by decide +kernel) ⟨by decide, by decide⟩ rfl hl.1 rfl (Nat.le_of_ble_eq_true rfl) ⟨Nat.zero_le _, Nat.zero_le _⟩ dX8_swap_13 ?_
    refine z_if_neB (tgt := 22) hx hb dX8_swap_16 (by decide) (fun c3 => ?_) (fun c3 => ?_)
    · refine lv_aload_n hx hb dX8_swap_22 rfl (lv_at hl 0 rfl) ?_
      refine lv_iload_n hx hb dX8_swap_23 rfl (lv_at hl 1 rfl) ?_
      refine m_call (n := 1) (As := [.int (iI (a))]) (rest := []) hx hb hml hts hown hK hW (c8_isSound l D cI cZ ad τ hI.1 a.toNat a (by omega) (by omega) (hI.wh _)) gX8_swap_X8_isSound rfl rfl rfl (by decide +kernel) ⟨by decide, by decide⟩ rfl hl.1 rfl (Nat.le_of_ble_eq_true rfl) ⟨Nat.zero_le _, Nat.zero_le _⟩ dX8_swap_24 ?_
      refine z_if_eqB (tgt := 32) hx hb dX8_swap_27 (by decide) (fun c4 => ?_) (fun c4 => ?_)
      · obtain ⟨N, hN⟩ : ∃ N : Nat, τ 19 a.toNat = N := ⟨(τ 19 a.toNat).toNat, by have : (0 : Int) ≤ τ 19 a.toNat ∧ τ 19 a.toNat ≤ 16 := hI.1 19 a.toNat; omega⟩
        have hN2 : (τ 19 a.toNat).toNat = N := by omega
        have hN3 : N ≤ 16 := by have : (0 : Int) ≤ τ 19 a.toNat ∧ τ 19 a.toNat ≤ 16 := hI.1 19 a.toNat; omega
        refine z_iconst hx hb dX8_swap_32 ?_
        refine lv_istore_n (lv' := [(2, .int (iI (0))), (0, .ref (ad 0)), (1, .int (iI (a)))]) hx hb dX8_swap_33 rfl hl (by decide) rfl (fun ls hl => ?_)
        have lp34 : ∀ (n34 k : Nat) (x2 : Int), x2 = (k : Int) → k ≤ (N - 1) → (N - 1) + 1 ≤ k + n34 → (∀ j, j < k → swB τ a.toNat j = false) → ∀ (H : Heap) (locs : List Loc), MW D cI cZ ad (τ) H → va_S (MA ad) s.heap H locs → H.size = s.heap.size → Rng (τ) → ∀ ls : Array Slot, lv_has ls 4 [(2, .int (iI (x2))), (0, .ref (ad 0)), (1, .int (iI (a)))] → W p l e { frames := 4, cells := 0, slots := 0, locals := 89 } s m [.ref (ad 0), .int (iI (a))].toArray below meth c H locs 0 0 (MQ below (mQ D cI cZ ad (some (.int (iI (spSwap τ a)))) (τ)) [.ref (ad 0), .int (iI (a))].toArray s 0 0 (MA ad)) (F0 m 34 ls []) := by
          intro n34
          induction n34 with
          | zero => intro k x2  ex2 hk1 hk2; exact absurd hk2 (by omega)
          | succ n34 ih34 =>
            intro k x2  ex2 hk1 hk2 hn H locs hW hS hz hR ls hl
            subst ex2
            refine lv_iload_n hx hb dX8_swap_34 rfl (lv_at hl 0 rfl) ?_
            refine z_iconst hx hb dX8_swap_35 ?_
            refine z_iadd hx hb dX8_swap_36 ?_
            refine lv_aload_n hx hb dX8_swap_37 rfl (lv_at hl 1 rfl) ?_
            refine m_get hx hb hts hin8 hown hK hW 19 (by decide) (hts _ (by decide +kernel)) (v := .ref (ad 19)) rfl dX8_swap_38 ?_
            refine lv_iload_n hx hb dX8_swap_41 rfl (lv_at hl 2 rfl) ?_
            refine m_ald (d := 19) (j := a.toNat) hx hb hK hW rfl (by omega) (show a.toNat < 6 from by omega) dX8_swap_42 ?_
            refine z_icmp_ge (tgt := 85) hx hb (by omega) (by omega) dX8_swap_43 (by decide) (fun c5 => ?_) (fun c5 => ?_)
            · refine z_iconst hx hb dX8_swap_85 ?_
              exact m_iret hx hb hr hlocks (hW) hS hz (by unfold spSwap; rw [if_neg (by omega), if_neg (fun hk => hk (by assumption)), if_neg (by assumption)]; unfold swO; rw [hN2, show N - 1 = k by omega]; exact (ff_no hn).symm) dX8_swap_86
            · refine lv_aload_n hx hb dX8_swap_46 rfl (lv_at hl 1 rfl) ?_
              refine lv_iload_n hx hb dX8_swap_47 rfl (lv_at hl 2 rfl) ?_
              refine lv_iload_n hx hb dX8_swap_48 rfl (lv_at hl 0 rfl) ?_
              refine m_callW (n := 2) (As := [.int (iI (a)), .int (iI ((k : Int)))]) (rest := []) hx hb hml hts hown hK hW hS hz (c8_turn l D cI cZ ad (τ) hR a.toNat a (by omega) k (k : Int) (by omega) (by omega) (by omega)) gX8_swap_X8_turn rfl rfl rfl (by decide +kernel) ⟨by decide, by decide⟩ rfl hl.1 rfl (Nat.le_of_ble_eq_true rfl) ⟨Nat.zero_le _, Nat.zero_le _⟩ dX8_swap_49 (fun H locs hW hS hz => ?_)
              have hR := tn_R (b := a.toNat) (q := k) hR
              have jn66 : ∀ xj : Int, xj = (bI (swB τ a.toNat k = true)) → ∀ ls : Array Slot, lv_has ls 4 [(2, .int (iI ((k : Int)))), (0, .ref (ad 0)), (1, .int (iI (a)))] → W p l e { frames := 4, cells := 0, slots := 0, locals := 89 } s m [.ref (ad 0), .int (iI (a))].toArray below meth c H locs 0 0 (MQ below (mQ D cI cZ ad (some (.int (iI (spSwap τ a)))) (τ)) [.ref (ad 0), .int (iI (a))].toArray s 0 0 (MA ad)) (F0 m 66 ls (.int (iI xj) :: [])) := by
                intro xj ej ls hl
                subst ej
                refine lv_istore_n (lv' := [(3, .int (iI (bI (swB τ a.toNat k = true)))), (2, .int (iI ((k : Int)))), (0, .ref (ad 0)), (1, .int (iI (a)))]) hx hb dX8_swap_66 rfl hl (by decide) rfl (fun ls hl => ?_)
                refine lv_aload_n hx hb dX8_swap_67 rfl (lv_at hl 2 rfl) ?_
                refine lv_iload_n hx hb dX8_swap_68 rfl (lv_at hl 3 rfl) ?_
                refine lv_iload_n hx hb dX8_swap_69 rfl (lv_at hl 1 rfl) ?_
                refine m_callW (n := 2) (As := [.int (iI (a)), .int (iI ((k : Int)))]) (rest := []) hx hb hml hts hown hK hW hS hz (c8_turn l D cI cZ ad (tnT (τ) a.toNat k) hR a.toNat a (by omega) k (k : Int) (by omega) (by omega) (by omega)) gX8_swap_X8_turn rfl rfl rfl (by decide +kernel) ⟨by decide, by decide⟩ rfl hl.1 rfl (Nat.le_of_ble_eq_true rfl) ⟨Nat.zero_le _, Nat.zero_le _⟩ dX8_swap_70 (fun H locs hW hS hz => ?_)
                rw [tn_tn] at hW
                have hR := hI.1
                refine lv_iload_n hx hb dX8_swap_73 rfl (lv_at hl 0 rfl) ?_
                refine z_if_eqB (tgt := 79) hx hb dX8_swap_74 (by decide) (fun c6 => ?_) (fun c6 => ?_)
                · refine z_iinc (k := 1) (lv' := [(2, .int (iI ((k : Int) + 1))), (3, .int (iI (bI (swB τ a.toNat k = true)))), (0, .ref (ad 0)), (1, .int (iI (a)))]) hx hb dX8_swap_79 hl rfl (by decide) rfl (fun ls hl => ?_)
                  refine lv_goto (tgt := 34) hx hb dX8_swap_82 (by decide) ?_
                  exact ih34 (k + 1) ((k : Int) + 1)  (by omega) (by omega) (by omega) (fl_s hn (by simpa using c6)) _ _ hW hS hz hR ls (lv_sub hl [0, 2, 3] rfl)
                · refine lv_iload_n hx hb dX8_swap_77 rfl (lv_at hl 1 rfl) ?_
                  exact m_iret hx hb hr hlocks (hW) hS hz (by unfold spSwap; rw [if_neg (by omega), if_neg (fun hk => hk (by assumption)), if_neg (by assumption)]; unfold swO; rw [hN2]; exact (ff_at hn c6 (by omega)).symm) dX8_swap_78
              refine lv_aload_n hx hb dX8_swap_52 rfl (lv_at hl 1 rfl) ?_
              refine lv_iload_n hx hb dX8_swap_53 rfl (lv_at hl 2 rfl) ?_
              refine m_call (n := 1) (As := [.int (iI (a))]) (rest := []) hx hb hml hts hown hK hW (c8_faultOf l D cI cZ ad (tnT (τ) a.toNat k) hR a.toNat a (by omega) (by omega) (tn_wh (hI.wh _))) gX8_swap_X8_faultOf rfl rfl rfl (by decide +kernel) ⟨by decide, by decide⟩ rfl hl.1 rfl (Nat.le_of_ble_eq_true rfl) ⟨Nat.zero_le _, Nat.zero_le _⟩ dX8_swap_54 ?_
              have r7 := ft_r hR a.toNat
              refine z_iconst hx hb dX8_swap_57 ?_
              refine z_icmp_ne (tgt := 65) hx hb (by omega) (by omega) dX8_swap_58 (by decide) (fun c8 => ?_) (fun c8 => ?_)
              · refine z_iconst hx hb dX8_swap_65 ?_
                exact jn66 0 (bI_f (by unfold swB; simp [c8])).symm ls (lv_sub hl [0, 1, 2] rfl)
              · refine z_iconst hx hb dX8_swap_61 ?_
                refine lv_goto (tgt := 66) hx hb dX8_swap_62 (by decide) ?_
                exact jn66 1 (bI_t (decide_eq_true c8)).symm ls (lv_sub hl [0, 1, 2] rfl)
        exact lp34 ((N - 1) + 1) 0 0  (by omega) (by omega) (by omega) fl_0 _ _ hW hS hz hR ls (lv_sub hl [0, 1, 2] rfl)
      · refine z_iconst hx hb dX8_swap_30 ?_
        exact m_iret hx hb hr hlocks (hW) hS hz (by unfold spSwap; repeat (first | rw [if_pos (by first | assumption | omega)] | rw [if_neg (by first | assumption | omega | (intro hk; exact hk (by assumption)))])) dX8_swap_31
    · refine z_bipush hx hb dX8_swap_19 (by decide) ?_
      exact m_iret hx hb hr hlocks (hW) hS hz (by unfold spSwap; repeat (first | rw [if_pos (by first | assumption | omega)] | rw [if_neg (by first | assumption | omega | (intro hk; exact hk (by assumption)))])) dX8_swap_21
  · refine z_bipush hx hb dX8_swap_8 (by decide) ?_
    exact m_iret hx hb hr hlocks (hW) hS hz (by unfold spSwap; repeat (first | rw [if_pos (by first | assumption | omega)] | rw [if_neg (by first | assumption | omega | (intro hk; exact hk (by assumption)))])) dX8_swap_10
set_option maxHeartbeats 4000000 in
set_option maxRecDepth 100000 in
theorem c8_sample (l : Launch) (D : va_G) (cI cZ : ClassId) (ad : Nat → Nat) (τ : Tau) (hI : Rng τ) (x : Int) (h_x : I32 x) (a : Int) (h_a : I32 a) (b : Int) (h_b : I32 b)  : Met l yX8_sample wsX8_sample { frames := 2, cells := 0, slots := 0, locals := 51 } (mPc D cI cZ ad τ [.ref (ad 0), .int (iI (x)), .int (iI (a)), .int (iI (b))]) (mQ D cI cZ ad (some (.int (iI (spSam τ x a b)))) (stSam τ x a b)) 0 0 (MA ad) := by
  refine m_start (by decide) rfl (Nat.le_of_ble_eq_true rfl) ?_
  intro p e s m below meth c hx hb hr hlocks hml hts hown hW hK ls hl
  have hin8 : ∀ w ∈ wsX80, w ∈ wsX8_sample := by decide +kernel
  have hS : va_S (MA ad) s.heap s.heap [] := va_S.rf
  have hz : s.heap.size = s.heap.size := rfl
  have hR : Rng τ := hI
  have hl : lv_has ls 6 [(0, .ref (ad 0)), (1, .int (iI (x))), (2, .int (iI (a))), (3, .int (iI (b)))] := hl
  refine lv_aload_n hx hb dX8_sample_0 rfl (lv_at hl 0 rfl) ?_
  refine lv_iload_n hx hb dX8_sample_1 rfl (lv_at hl 1 rfl) ?_
  refine m_call (n := 1) (As := [.int (iI (x))]) (rest := []) hx hb hml hts hown hK hW (c8_isHole l D cI cZ ad τ hI x (by omega)) gX8_sample_X8_isHole rfl rfl rfl (by decide +kernel) ⟨by decide, by decide⟩ rfl hl.1 rfl (Nat.le_of_ble_eq_true rfl) ⟨Nat.zero_le _, Nat.zero_le _⟩ dX8_sample_2 ?_
  have r1 := (show (0 : Int) ≤ τ 0 0 ∧ τ 0 0 ≤ 4 from hI 0 0)
  refine z_if_neB (tgt := 11) hx hb dX8_sample_5 (by decide) (fun c2 => ?_) (fun c2 => ?_)
  · refine lv_aload_n hx hb dX8_sample_11 rfl (lv_at hl 0 rfl) ?_
    refine lv_iload_n hx hb dX8_sample_12 rfl (lv_at hl 1 rfl) ?_
    refine lv_iload_n hx hb dX8_sample_13 rfl (lv_at hl 2 rfl) ?_
    refine lv_iload_n hx hb dX8_sample_14 rfl (lv_at hl 3 rfl) ?_
    refine m_call (n := 3) (As := [.int (iI (x)), .int (iI (a)), .int (iI (b))]) (rest := []) hx hb hml hts hown hK hW (c8_isStretch l D cI cZ ad τ hI x.toNat x (by omega) a (by omega) b (by omega) (by omega)) gX8_sample_X8_isStretch rfl rfl rfl (by decide +kernel) ⟨by decide, by decide⟩ rfl hl.1 rfl (Nat.le_of_ble_eq_true rfl) ⟨Nat.zero_le _, Nat.zero_le _⟩ dX8_sample_15 ?_
    have r3 := en_r hI x.toNat
    refine z_if_neB (tgt := 24) hx hb dX8_sample_18 (by decide) (fun c4 => ?_) (fun c4 => ?_)
    · have jn39 : ∀ xj : Int, xj = (bI (frK τ x a b 0 = true)) → ∀ ls : Array Slot, lv_has ls 6 [(0, .ref (ad 0)), (1, .int (iI (x))), (2, .int (iI (a))), (3, .int (iI (b)))] → W p l e { frames := 2, cells := 0, slots := 0, locals := 51 } s m [.ref (ad 0), .int (iI (x)), .int (iI (a)), .int (iI (b))].toArray below meth c s.heap [] 0 0 (MQ below (mQ D cI cZ ad (some (.int (iI (spSam τ x a b)))) (stSam τ x a b)) [.ref (ad 0), .int (iI (x)), .int (iI (a)), .int (iI (b))].toArray s 0 0 (MA ad)) (F0 m 39 ls (.int (iI xj) :: [])) := by
        intro xj ej ls hl
        subst ej
        refine lv_istore (lv' := [(4, .int (iI (bI (frK τ x a b 0 = true)))), (0, .ref (ad 0)), (1, .int (iI (x))), (2, .int (iI (a))), (3, .int (iI (b)))]) hx hb dX8_sample_39 hl (by decide) rfl (fun ls hl => ?_)
        obtain ⟨N, hN⟩ : ∃ N : Nat, τ 12 0 = N := ⟨(τ 12 0).toNat, by have : (0 : Int) ≤ τ 12 0 ∧ τ 12 0 ≤ 30 := hI 12 0; omega⟩
        have hN2 : (τ 12 0).toNat = N := by omega
        have hN3 : N ≤ 30 := by have : (0 : Int) ≤ τ 12 0 ∧ τ 12 0 ≤ 30 := hI 12 0; omega
        refine z_iconst hx hb dX8_sample_41 ?_
        refine lv_istore (lv' := [(5, .int (iI (0))), (4, .int (iI (bI (frK τ x a b 0 = true)))), (0, .ref (ad 0)), (1, .int (iI (x))), (2, .int (iI (a))), (3, .int (iI (b)))]) hx hb dX8_sample_42 hl (by decide) rfl (fun ls hl => ?_)
        have lp44 : ∀ (n44 k : Nat) (x4 x5 : Int), x4 = bI (frK τ x a b k = true) → x5 = (k : Int) → k ≤ N → N + 1 ≤ k + n44 → ∀ ls : Array Slot, lv_has ls 6 [(4, .int (iI (x4))), (5, .int (iI (x5))), (0, .ref (ad 0)), (1, .int (iI (x))), (2, .int (iI (a))), (3, .int (iI (b)))] → W p l e { frames := 2, cells := 0, slots := 0, locals := 51 } s m [.ref (ad 0), .int (iI (x)), .int (iI (a)), .int (iI (b))].toArray below meth c s.heap [] 0 0 (MQ below (mQ D cI cZ ad (some (.int (iI (spSam τ x a b)))) (stSam τ x a b)) [.ref (ad 0), .int (iI (x)), .int (iI (a)), .int (iI (b))].toArray s 0 0 (MA ad)) (F0 m 44 ls []) := by
          intro n44
          induction n44 with
          | zero => intro k x4 x5  ex4 ex5 hk1 hk2; exact absurd hk2 (by omega)
          | succ n44 ih44 =>
            intro k x4 x5  ex4 ex5 hk1 hk2  ls hl
            subst ex4
            subst ex5
            refine lv_iload hx hb dX8_sample_44 (lv_at hl 1 rfl) ?_
            refine lv_aload_n hx hb dX8_sample_46 rfl (lv_at hl 2 rfl) ?_
            refine m_get hx hb hts hin8 hown hK hW 12 (by decide) (hts _ (by decide +kernel)) (v := .int (iI (τ 12 0))) rfl dX8_sample_47 ?_
            have r5 : (0 : Int) ≤ τ 12 0 ∧ τ 12 0 ≤ 30 := hI 12 0
            refine z_icmp_ge (tgt := 104) hx hb (by omega) (by omega) dX8_sample_50 (by decide) (fun c6 => ?_) (fun c6 => ?_)
            · have hfr : frK τ x a b k = frSO τ x a b := by unfold frSO; rw [hN2, show N = k by omega]
              rw [hfr] at hl
              refine lv_iload hx hb dX8_sample_104 (lv_at hl 0 rfl) ?_
              refine z_if_neB (tgt := 112) hx hb dX8_sample_106 (by decide) (fun c7 => ?_) (fun c7 => ?_)
              · refine lv_aload_n hx hb dX8_sample_112 rfl (lv_at hl 2 rfl) ?_
                refine m_get hx hb hts hin8 hown hK hW 12 (by decide) (hts _ (by decide +kernel)) (v := .int (iI (τ 12 0))) rfl dX8_sample_113 ?_
                refine z_bipush hx hb dX8_sample_116 (by decide) ?_
                refine z_icmp_ne (tgt := 124) hx hb (by omega) (by omega) dX8_sample_118 (by decide) (fun c8 => ?_) (fun c8 => ?_)
                · refine lv_aload_n hx hb dX8_sample_124 rfl (lv_at hl 2 rfl) ?_
                  refine m_get hx hb hts hin8 hown hK hW 13 (by decide) (hts _ (by decide +kernel)) (v := .ref (ad 13)) rfl dX8_sample_125 ?_
                  refine lv_aload_n hx hb dX8_sample_128 rfl (lv_at hl 2 rfl) ?_
                  refine m_get hx hb hts hin8 hown hK hW 12 (by decide) (hts _ (by decide +kernel)) (v := .int (iI (τ 12 0))) rfl dX8_sample_129 ?_
                  refine lv_iload_n hx hb dX8_sample_132 rfl (lv_at hl 3 rfl) ?_
                  refine m_ast (d := 13) (j := (τ 12 0).toNat) (v := x) hx hb hK hW hS hz rfl (by omega) (show (τ 12 0).toNat < 30 from by omega) dX8_sample_133 (fun H locs hW hS hz => ?_)
                  have hR := Rng.tu (c := 13) (i := (τ 12 0).toNat) (v := x) hR (show (0 : Int) ≤ x from by omega) (show x ≤ 3 from by omega)
                  refine lv_aload_n hx hb dX8_sample_134 rfl (lv_at hl 2 rfl) ?_
                  refine m_get hx hb hts hin8 hown hK hW 14 (by decide) (hts _ (by decide +kernel)) (v := .ref (ad 14)) rfl dX8_sample_135 ?_
                  refine lv_aload_n hx hb dX8_sample_138 rfl (lv_at hl 2 rfl) ?_
                  refine m_get hx hb hts hin8 hown hK hW 12 (by decide) (hts _ (by decide +kernel)) (v := .int (iI ((tu τ 13 ((τ 12 0).toNat) x) 12 0))) rfl dX8_sample_139 ?_
                  refine z_top (show (tu τ 13 ((τ 12 0).toNat) x) 12 0 = τ 12 0 from by rw [tu_n (show 12 ≠ 13 by decide)]) ?_
                  refine lv_iload_n hx hb dX8_sample_142 rfl (lv_at hl 4 rfl) ?_
                  refine m_ast (d := 14) (j := (τ 12 0).toNat) (v := a) hx hb hK hW hS hz rfl (by omega) (show (τ 12 0).toNat < 30 from by omega) dX8_sample_143 (fun H locs hW hS hz => ?_)
                  have hR := Rng.tu (c := 14) (i := (τ 12 0).toNat) (v := a) hR (show (0 : Int) ≤ a from by omega) (show a ≤ 20000 from by omega)
                  refine lv_aload_n hx hb dX8_sample_144 rfl (lv_at hl 2 rfl) ?_
                  refine m_get hx hb hts hin8 hown hK hW 15 (by decide) (hts _ (by decide +kernel)) (v := .ref (ad 15)) rfl dX8_sample_145 ?_
                  refine lv_aload_n hx hb dX8_sample_148 rfl (lv_at hl 2 rfl) ?_
                  refine m_get hx hb hts hin8 hown hK hW 12 (by decide) (hts _ (by decide +kernel)) (v := .int (iI ((tu (tu τ 13 ((τ 12 0).toNat) x) 14 ((τ 12 0).toNat) a) 12 0))) rfl dX8_sample_149 ?_
                  refine z_top (show (tu (tu τ 13 ((τ 12 0).toNat) x) 14 ((τ 12 0).toNat) a) 12 0 = τ 12 0 from by rw [tu_n (show 12 ≠ 14 by decide), tu_n (show 12 ≠ 13 by decide)]) ?_
                  refine lv_iload_n hx hb dX8_sample_152 rfl (lv_at hl 5 rfl) ?_
                  refine m_ast (d := 15) (j := (τ 12 0).toNat) (v := b) hx hb hK hW hS hz rfl (by omega) (show (τ 12 0).toNat < 30 from by omega) dX8_sample_153 (fun H locs hW hS hz => ?_)
                  have hR := Rng.tu (c := 15) (i := (τ 12 0).toNat) (v := b) hR (show (0 : Int) ≤ b from by omega) (show b ≤ 20000 from by omega)
                  refine lv_aload_n hx hb dX8_sample_154 rfl (lv_at hl 2 rfl) ?_
                  refine m_get hx hb hts hin8 hown hK hW 16 (by decide) (hts _ (by decide +kernel)) (v := .ref (ad 16)) rfl dX8_sample_155 ?_
                  refine lv_aload_n hx hb dX8_sample_158 rfl (lv_at hl 2 rfl) ?_
                  refine m_get hx hb hts hin8 hown hK hW 12 (by decide) (hts _ (by decide +kernel)) (v := .int (iI ((tu (tu (tu τ 13 ((τ 12 0).toNat) x) 14 ((τ 12 0).toNat) a) 15 ((τ 12 0).toNat) b) 12 0))) rfl dX8_sample_159 ?_
                  refine z_top (show (tu (tu (tu τ 13 ((τ 12 0).toNat) x) 14 ((τ 12 0).toNat) a) 15 ((τ 12 0).toNat) b) 12 0 = τ 12 0 from by rw [tu_n (show 12 ≠ 15 by decide), tu_n (show 12 ≠ 14 by decide), tu_n (show 12 ≠ 13 by decide)]) ?_
                  refine z_iconst hx hb dX8_sample_162 ?_
                  refine m_ast (d := 16) (j := (τ 12 0).toNat) (v := 4) hx hb hK hW hS hz rfl (by omega) (show (τ 12 0).toNat < 30 from by omega) dX8_sample_163 (fun H locs hW hS hz => ?_)
                  have hR := Rng.tu (c := 16) (i := (τ 12 0).toNat) (v := 4) hR (show (0 : Int) ≤ 4 from by omega) (show 4 ≤ 4 from by omega)
                  refine lv_aload_n hx hb dX8_sample_164 rfl (lv_at hl 2 rfl) ?_
                  refine lv_dup hx hb dX8_sample_165 rfl ?_
                  refine m_get hx hb hts hin8 hown hK hW 12 (by decide) (hts _ (by decide +kernel)) (v := .int (iI ((tu (tu (tu (tu τ 13 ((τ 12 0).toNat) x) 14 ((τ 12 0).toNat) a) 15 ((τ 12 0).toNat) b) 16 ((τ 12 0).toNat) 4) 12 0))) rfl dX8_sample_166 ?_
                  refine z_top (show (tu (tu (tu (tu τ 13 ((τ 12 0).toNat) x) 14 ((τ 12 0).toNat) a) 15 ((τ 12 0).toNat) b) 16 ((τ 12 0).toNat) 4) 12 0 = τ 12 0 from by rw [tu_n (show 12 ≠ 16 by decide), tu_n (show 12 ≠ 15 by decide), tu_n (show 12 ≠ 14 by decide), tu_n (show 12 ≠ 13 by decide)]) ?_
                  refine z_iconst hx hb dX8_sample_169 ?_
                  refine z_iadd hx hb dX8_sample_170 ?_
                  refine m_put (v := (τ 12 0) + 1) hx hb hts hin8 hown hK hW hS hz 12 (by decide) (by decide) (hts _ (by decide +kernel)) rfl (by decide +kernel) rfl dX8_sample_171 (fun H locs hW hS hz => ?_)
                  have hR := Rng.tu (c := 12) (i := 0) (v := (τ 12 0) + 1) hR (show (0 : Int) ≤ (τ 12 0) + 1 from by omega) (show (τ 12 0) + 1 ≤ 30 from by omega)
                  refine lv_aload_n hx hb dX8_sample_174 rfl (lv_at hl 2 rfl) ?_
                  refine m_get hx hb hts hin8 hown hK hW 12 (by decide) (hts _ (by decide +kernel)) (v := .int (iI ((tu (tu (tu (tu (tu τ 13 ((τ 12 0).toNat) x) 14 ((τ 12 0).toNat) a) 15 ((τ 12 0).toNat) b) 16 ((τ 12 0).toNat) 4) 12 0 ((τ 12 0) + 1)) 12 0))) rfl dX8_sample_175 ?_
                  refine z_top (show (tu (tu (tu (tu (tu τ 13 ((τ 12 0).toNat) x) 14 ((τ 12 0).toNat) a) 15 ((τ 12 0).toNat) b) 16 ((τ 12 0).toNat) 4) 12 0 ((τ 12 0) + 1)) 12 0 = (τ 12 0) + 1 from by rw [tu_s]) ?_
                  refine z_iconst hx hb dX8_sample_178 ?_
                  refine z_isub hx hb dX8_sample_179 ?_
                  exact m_iret hx hb hr hlocks (by unfold stSam; rw [if_pos ⟨by omega, by omega, by assumption, by omega⟩]; exact hW) hS hz (by unfold spSam; rw [if_neg (by omega), if_neg (by omega), if_neg (fun hk => hk (by assumption)), if_neg (by omega)]; omega) dX8_sample_180
                · refine z_bipush hx hb dX8_sample_121 (by decide) ?_
                  exact m_iret hx hb hr hlocks (by unfold stSam; rw [if_neg (fun hk => by first | omega | exact hk.1 (by assumption) | exact hk.2.1 (by assumption) | exact hk.2.2.1 (by assumption) | exact hk.2.2.2.1 (by assumption) | exact hk.2.2.2 (by assumption) | exact hk.2.2.2.2 (by assumption))]; exact hW) hS hz (by unfold spSam; rw [if_neg (by omega), if_neg (by omega), if_neg (fun hk => hk (by assumption)), if_pos (by omega)]) dX8_sample_123
              · refine z_bipush hx hb dX8_sample_109 (by decide) ?_
                exact m_iret hx hb hr hlocks (by unfold stSam; rw [if_neg (fun hk => absurd hk.2.2.1 (by assumption))]; exact hW) hS hz (by unfold spSam; rw [if_neg (by omega), if_neg (by omega), if_pos (by assumption)]) dX8_sample_111
            · have jn96 : ∀ xj : Int, xj = (bI (frK τ x a b (k + 1) = true)) → ∀ ls : Array Slot, lv_has ls 6 [(4, .int (iI (bI (frK τ x a b k = true)))), (5, .int (iI ((k : Int)))), (0, .ref (ad 0)), (1, .int (iI (x))), (2, .int (iI (a))), (3, .int (iI (b)))] → W p l e { frames := 2, cells := 0, slots := 0, locals := 51 } s m [.ref (ad 0), .int (iI (x)), .int (iI (a)), .int (iI (b))].toArray below meth c s.heap [] 0 0 (MQ below (mQ D cI cZ ad (some (.int (iI (spSam τ x a b)))) (stSam τ x a b)) [.ref (ad 0), .int (iI (x)), .int (iI (a)), .int (iI (b))].toArray s 0 0 (MA ad)) (F0 m 96 ls (.int (iI xj) :: [])) := by
                intro xj ej ls hl
                subst ej
                refine lv_istore (lv' := [(4, .int (iI (bI (frK τ x a b (k + 1) = true)))), (5, .int (iI ((k : Int)))), (0, .ref (ad 0)), (1, .int (iI (x))), (2, .int (iI (a))), (3, .int (iI (b)))]) hx hb dX8_sample_96 hl (by decide) rfl (fun ls hl => ?_)
                refine z_iinc (k := 1) (lv' := [(5, .int (iI ((k : Int) + 1))), (4, .int (iI (bI (frK τ x a b (k + 1) = true)))), (0, .ref (ad 0)), (1, .int (iI (x))), (2, .int (iI (a))), (3, .int (iI (b)))]) hx hb dX8_sample_98 hl rfl (by decide) rfl (fun ls hl => ?_)
                refine lv_goto (tgt := 44) hx hb dX8_sample_101 (by decide) ?_
                exact ih44 (k + 1) (bI (frK τ x a b (k + 1) = true)) ((k : Int) + 1)  rfl (by omega) (by omega) (by omega)  ls (lv_sub hl [1, 0, 2, 3, 4, 5] rfl)
              refine lv_iload hx hb dX8_sample_53 (lv_at hl 0 rfl) ?_
              refine z_if_eqB (tgt := 95) hx hb dX8_sample_55 (by decide) (fun c9 => ?_) (fun c9 => ?_)
              · refine z_iconst hx hb dX8_sample_95 ?_
                exact jn96 0 (bI_f (by rw [frK_s]; unfold tkB; simp [c9, c6])).symm ls (lv_sub hl [0, 1, 2, 3, 4, 5] rfl)
              · refine lv_aload_n hx hb dX8_sample_58 rfl (lv_at hl 2 rfl) ?_
                refine m_get hx hb hts hin8 hown hK hW 13 (by decide) (hts _ (by decide +kernel)) (v := .ref (ad 13)) rfl dX8_sample_59 ?_
                refine lv_iload hx hb dX8_sample_62 (lv_at hl 1 rfl) ?_
                refine m_ald (d := 13) (j := k) hx hb hK hW rfl (by omega) (show k < 30 from by omega) dX8_sample_64 ?_
                have r10 : (0 : Int) ≤ τ 13 k ∧ τ 13 k ≤ 3 := hI 13 k
                refine lv_iload_n hx hb dX8_sample_65 rfl (lv_at hl 3 rfl) ?_
                refine z_icmp_ne (tgt := 91) hx hb (by omega) (by omega) dX8_sample_66 (by decide) (fun c11 => ?_) (fun c11 => ?_)
                · refine z_iconst hx hb dX8_sample_91 ?_
                  refine lv_goto (tgt := 96) hx hb dX8_sample_92 (by decide) ?_
                  exact jn96 1 (bI_t (by rw [frK_s]; unfold tkB; simp [c11, c9, c6])).symm ls (lv_sub hl [0, 1, 2, 3, 4, 5] rfl)
                · refine lv_iload_n hx hb dX8_sample_69 rfl (lv_at hl 4 rfl) ?_
                  refine lv_iload_n hx hb dX8_sample_70 rfl (lv_at hl 5 rfl) ?_
                  refine lv_aload_n hx hb dX8_sample_71 rfl (lv_at hl 2 rfl) ?_
                  refine m_get hx hb hts hin8 hown hK hW 14 (by decide) (hts _ (by decide +kernel)) (v := .ref (ad 14)) rfl dX8_sample_72 ?_
                  refine lv_iload hx hb dX8_sample_75 (lv_at hl 1 rfl) ?_
                  refine m_ald (d := 14) (j := k) hx hb hK hW rfl (by omega) (show k < 30 from by omega) dX8_sample_77 ?_
                  have r12 : (0 : Int) ≤ τ 14 k ∧ τ 14 k ≤ 20000 := hI 14 k
                  refine lv_aload_n hx hb dX8_sample_78 rfl (lv_at hl 2 rfl) ?_
                  refine m_get hx hb hts hin8 hown hK hW 15 (by decide) (hts _ (by decide +kernel)) (v := .ref (ad 15)) rfl dX8_sample_79 ?_
                  refine lv_iload hx hb dX8_sample_82 (lv_at hl 1 rfl) ?_
                  refine m_ald (d := 15) (j := k) hx hb hK hW rfl (by omega) (show k < 30 from by omega) dX8_sample_84 ?_
                  have r13 : (0 : Int) ≤ τ 15 k ∧ τ 15 k ≤ 20000 := hI 15 k
                  refine s_call (n := 4) (As := [.int (iI (a)), .int (iI (b)), .int (iI (τ 14 k)), .int (iI (τ 15 k))]) (rest := []) hx hb hml hts hown (c8_common l a (by omega) b (by omega) (τ 14 k) (by omega) (τ 15 k) (by omega) (by omega)) gX8_sample_X8_common rfl rfl rfl (by decide +kernel) ⟨by decide, by decide⟩ rfl hl.1 rfl (Nat.le_of_ble_eq_true rfl) ⟨Nat.zero_le _, Nat.zero_le _⟩ dX8_sample_85 ?_
                  refine z_if_ne (tgt := 95) hx hb (by unfold cm; omega) dX8_sample_88 (by decide) (fun c14 => ?_) (fun c14 => ?_)
                  · refine z_iconst hx hb dX8_sample_95 ?_
                    exact jn96 0 (bI_f (by rw [frK_s]; unfold tkB; simp [c14, c11])).symm ls (lv_sub hl [0, 1, 2, 3, 4, 5] rfl)
                  · refine z_iconst hx hb dX8_sample_91 ?_
                    refine lv_goto (tgt := 96) hx hb dX8_sample_92 (by decide) ?_
                    exact jn96 1 (bI_t (by rw [frK_s]; unfold tkB; simp [c14, c11, c9])).symm ls (lv_sub hl [0, 1, 2, 3, 4, 5] rfl)
        exact lp44 (N + 1) 0 (bI (frK τ x a b 0 = true)) 0  rfl (by omega) (by omega) (by omega)  ls (lv_sub hl [1, 0, 2, 3, 4, 5] rfl)
      refine lv_aload_n hx hb dX8_sample_24 rfl (lv_at hl 0 rfl) ?_
      refine lv_iload_n hx hb dX8_sample_25 rfl (lv_at hl 1 rfl) ?_
      refine lv_iload_n hx hb dX8_sample_26 rfl (lv_at hl 2 rfl) ?_
      refine lv_iload_n hx hb dX8_sample_27 rfl (lv_at hl 3 rfl) ?_
      refine m_call (n := 3) (As := [.int (iI (x)), .int (iI (a)), .int (iI (b))]) (rest := []) hx hb hml hts hown hK hW (c8_recoveredOf l D cI cZ ad τ hI x.toNat x (by omega) a (by omega) b (by omega) (by omega) (by omega)) gX8_sample_X8_recoveredOf rfl rfl rfl (by decide +kernel) ⟨by decide, by decide⟩ rfl hl.1 rfl (Nat.le_of_ble_eq_true rfl) ⟨Nat.zero_le _, Nat.zero_le _⟩ dX8_sample_28 ?_
      have r15 := rc_r hI x.toNat a b
      refine z_if_le (tgt := 38) hx hb (by omega) dX8_sample_31 (by decide) (fun c16 => ?_) (fun c16 => ?_)
      · refine z_iconst hx hb dX8_sample_38 ?_
        exact jn39 0 (bI_f (by simp [frK, exs]; omega)).symm ls (lv_sub hl [0, 1, 2, 3] rfl)
      · refine z_iconst hx hb dX8_sample_34 ?_
        refine lv_goto (tgt := 39) hx hb dX8_sample_35 (by decide) ?_
        exact jn39 1 (bI_t (by simp [frK, exs]; omega)).symm ls (lv_sub hl [0, 1, 2, 3] rfl)
    · refine z_bipush hx hb dX8_sample_21 (by decide) ?_
      exact m_iret hx hb hr hlocks (by unfold stSam; rw [if_neg (fun hk => by first | omega | exact hk.1 (by assumption) | exact hk.2.1 (by assumption) | exact hk.2.2.1 (by assumption) | exact hk.2.2.2.1 (by assumption) | exact hk.2.2.2 (by assumption) | exact hk.2.2.2.2 (by assumption))]; exact hW) hS hz (by unfold spSam; repeat (first | rw [if_pos (by first | assumption | omega)] | rw [if_neg (by first | assumption | omega | (intro hk; exact hk (by assumption)))])) dX8_sample_23
  · refine z_bipush hx hb dX8_sample_8 (by decide) ?_
    exact m_iret hx hb hr hlocks (by unfold stSam; rw [if_neg (fun hk => by first | omega | exact hk.1 (by assumption) | exact hk.2.1 (by assumption) | exact hk.2.2.1 (by assumption) | exact hk.2.2.2.1 (by assumption) | exact hk.2.2.2 (by assumption) | exact hk.2.2.2.2 (by assumption))]; exact hW) hS hz (by unfold spSam; repeat (first | rw [if_pos (by first | assumption | omega)] | rw [if_neg (by first | assumption | omega | (intro hk; exact hk (by assumption)))])) dX8_sample_10
set_option maxHeartbeats 4000000 in
set_option maxRecDepth 100000 in
theorem c8_composite (l : Launch) (D : va_G) (cI cZ : ClassId) (ad : Nat → Nat) (τ : Tau) (hI : Inv τ) (x : Int) (h_x : I32 x) (a : Int) (h_a : I32 a) (b : Int) (h_b : I32 b) (t : Int) (h_t : I32 t) (u : Int) (h_u : I32 u)  : Met l yX8_composite wsX8_composite { frames := 5, cells := 0, slots := 0, locals := 112 } (mPc D cI cZ ad τ [.ref (ad 0), .int (iI (x)), .int (iI (a)), .int (iI (b)), .int (iI (t)), .int (iI (u))]) (rL (spComp τ x a b t u)) 0 0 NoA := by
  refine m_start (by decide) rfl (Nat.le_of_ble_eq_true rfl) ?_
  intro p e s m below meth c hx hb hr hlocks hml hts hown hW hK ls hl
  have hin8 : ∀ w ∈ wsX80, w ∈ wsX8_composite := by decide +kernel
  have hl : lv_has ls 13 [(0, .ref (ad 0)), (1, .int (iI (x))), (2, .int (iI (a))), (3, .int (iI (b))), (4, .int (iI (t))), (5, .int (iI (u)))] := hl
  refine lv_aload_n hx hb dX8_composite_0 rfl (lv_at hl 0 rfl) ?_
  refine lv_iload_n hx hb dX8_composite_1 rfl (lv_at hl 1 rfl) ?_
  refine m_call (n := 1) (As := [.int (iI (x))]) (rest := []) hx hb hml hts hown hK hW (c8_isHole l D cI cZ ad τ hI.1 x (by omega)) gX8_composite_X8_isHole rfl rfl rfl (by decide +kernel) ⟨by decide, by decide⟩ rfl hl.1 rfl (Nat.le_of_ble_eq_true rfl) ⟨Nat.zero_le _, Nat.zero_le _⟩ dX8_composite_2 ?_
  have r1 := (show (0 : Int) ≤ τ 0 0 ∧ τ 0 0 ≤ 4 from hI.1 0 0)
  refine z_if_neB (tgt := 12) hx hb dX8_composite_5 (by decide) (fun c2 => ?_) (fun c2 => ?_)
  · refine lv_aload_n hx hb dX8_composite_12 rfl (lv_at hl 0 rfl) ?_
    refine lv_iload_n hx hb dX8_composite_13 rfl (lv_at hl 1 rfl) ?_
    refine lv_iload_n hx hb dX8_composite_14 rfl (lv_at hl 2 rfl) ?_
    refine lv_iload_n hx hb dX8_composite_15 rfl (lv_at hl 3 rfl) ?_
    refine m_call (n := 3) (As := [.int (iI (x)), .int (iI (a)), .int (iI (b))]) (rest := []) hx hb hml hts hown hK hW (c8_isStretch l D cI cZ ad τ hI.1 x.toNat x (by omega) a (by omega) b (by omega) (by omega)) gX8_composite_X8_isStretch rfl rfl rfl (by decide +kernel) ⟨by decide, by decide⟩ rfl hl.1 rfl (Nat.le_of_ble_eq_true rfl) ⟨Nat.zero_le _, Nat.zero_le _⟩ dX8_composite_16 ?_
    have r3 := en_r hI.1 x.toNat
    refine z_if_eqB (tgt := 48) hx hb dX8_composite_19 (by decide) (fun c4 => ?_) (fun c4 => ?_)
    · refine z_ldc2 (n := (-102)) hx hb hown (hts (.constantLong RX8 200 (-102)) (by decide +kernel)) (by decide) dX8_composite_48 ?_
      exact s_lret hx hb hr hlocks (by unfold spComp; repeat (first | rw [if_pos (by first | assumption | omega)] | rw [if_neg (by first | assumption | omega | (intro hk; exact hk (by assumption)))])) dX8_composite_51
    · refine lv_iload hx hb dX8_composite_22 (lv_at hl 4 rfl) ?_
      refine z_i2l hx hb (by omega) dX8_composite_24 ?_
      refine z_lconst (n := 1) hx hb (by decide) dX8_composite_25 ?_
      refine z_ldc2 (n := 100000) hx hb hown (hts (.constantLong RX8 116 (100000)) (by decide +kernel)) (by decide) dX8_composite_26 ?_
      refine s_call (n := 3) (As := [.long (lL (t)), .long (lL (1)), .long (lL (100000))]) (rest := []) hx hb hml hts hown (c8_in l t (by omega) 1 (by omega) 100000 (by omega)) gX8_composite_X8_in rfl rfl rfl (by decide +kernel) ⟨by decide, by decide⟩ rfl hl.1 rfl (Nat.le_of_ble_eq_true rfl) ⟨Nat.zero_le _, Nat.zero_le _⟩ dX8_composite_29 ?_
      refine z_if_eqB (tgt := 48) hx hb dX8_composite_32 (by decide) (fun c5 => ?_) (fun c5 => ?_)
      · refine z_ldc2 (n := (-102)) hx hb hown (hts (.constantLong RX8 200 (-102)) (by decide +kernel)) (by decide) dX8_composite_48 ?_
        exact s_lret hx hb hr hlocks (by unfold spComp; repeat (first | rw [if_pos (by first | assumption | omega)] | rw [if_neg (by first | assumption | omega | (intro hk; exact hk (by assumption)))])) dX8_composite_51
      · refine lv_iload hx hb dX8_composite_35 (lv_at hl 5 rfl) ?_
        refine z_i2l hx hb (by omega) dX8_composite_37 ?_
        refine z_lconst (n := 0) hx hb (by decide) dX8_composite_38 ?_
        refine z_ldc2 (n := 2) hx hb hown (hts (.constantLong RX8 198 (2)) (by decide +kernel)) (by decide) dX8_composite_39 ?_
        refine s_call (n := 3) (As := [.long (lL (u)), .long (lL (0)), .long (lL (2))]) (rest := []) hx hb hml hts hown (c8_in l u (by omega) 0 (by omega) 2 (by omega)) gX8_composite_X8_in rfl rfl rfl (by decide +kernel) ⟨by decide, by decide⟩ rfl hl.1 rfl (Nat.le_of_ble_eq_true rfl) ⟨Nat.zero_le _, Nat.zero_le _⟩ dX8_composite_42 ?_
        refine z_if_neB (tgt := 52) hx hb dX8_composite_45 (by decide) (fun c6 => ?_) (fun c6 => ?_)
        · obtain ⟨N, hN⟩ : ∃ N : Nat, τ 12 0 = N := ⟨(τ 12 0).toNat, by have : (0 : Int) ≤ τ 12 0 ∧ τ 12 0 ≤ 30 := hI.1 12 0; omega⟩
          have hN2 : (τ 12 0).toNat = N := by omega
          have hN3 : N ≤ 30 := by have : (0 : Int) ≤ τ 12 0 ∧ τ 12 0 ≤ 30 := hI.1 12 0; omega
          refine z_lconst (n := 0) hx hb (by decide) dX8_composite_52 ?_
          refine lv_lstore (lv' := [(6, .long (lL (0))), (0, .ref (ad 0)), (1, .int (iI (x))), (2, .int (iI (a))), (3, .int (iI (b))), (4, .int (iI (t))), (5, .int (iI (u)))]) hx hb dX8_composite_53 hl (by decide) rfl (fun ls hl => ?_)
          refine z_iconst hx hb dX8_composite_55 ?_
          refine lv_istore (lv' := [(8, .int (iI (0))), (6, .long (lL (0))), (0, .ref (ad 0)), (1, .int (iI (x))), (2, .int (iI (a))), (3, .int (iI (b))), (4, .int (iI (t))), (5, .int (iI (u)))]) hx hb dX8_composite_56 hl (by decide) rfl (fun ls hl => ?_)
          have lp58 : ∀ (n58 k : Nat) (x6 x8 : Int), x6 = sm (cpS τ x a b t u) k → x8 = (k : Int) → k ≤ N → N + 1 ≤ k + n58 → ∀ ls : Array Slot, lv_has ls 13 [(6, .long (lL (x6))), (8, .int (iI (x8))), (0, .ref (ad 0)), (1, .int (iI (x))), (2, .int (iI (a))), (3, .int (iI (b))), (4, .int (iI (t))), (5, .int (iI (u)))] → W p l e { frames := 5, cells := 0, slots := 0, locals := 112 } s m [.ref (ad 0), .int (iI (x)), .int (iI (a)), .int (iI (b)), .int (iI (t)), .int (iI (u))].toArray below meth c s.heap [] 0 0 (MQ below (rL (spComp τ x a b t u)) [.ref (ad 0), .int (iI (x)), .int (iI (a)), .int (iI (b)), .int (iI (t)), .int (iI (u))].toArray s 0 0 (NoA)) (F0 m 58 ls []) := by
            intro n58
            induction n58 with
            | zero => intro k x6 x8  ex6 ex8 hk1 hk2; exact absurd hk2 (by omega)
            | succ n58 ih58 =>
              intro k x6 x8  ex6 ex8 hk1 hk2  ls hl
              subst ex6
              subst ex8
              refine lv_iload hx hb dX8_composite_58 (lv_at hl 1 rfl) ?_
              refine lv_aload_n hx hb dX8_composite_60 rfl (lv_at hl 2 rfl) ?_
              refine m_get hx hb hts hin8 hown hK hW 12 (by decide) (hts _ (by decide +kernel)) (v := .int (iI (τ 12 0))) rfl dX8_composite_61 ?_
              have r7 : (0 : Int) ≤ τ 12 0 ∧ τ 12 0 ≤ 30 := hI.1 12 0
              refine z_icmp_ge (tgt := 180) hx hb (by omega) (by omega) dX8_composite_64 (by decide) (fun c8 => ?_) (fun c8 => ?_)
              · refine lv_lload hx hb dX8_composite_180 (lv_at hl 0 rfl) ?_
                exact s_lret hx hb hr hlocks (by unfold spComp; rw [if_neg (by omega), if_neg (fun hk => hk ⟨by omega, by omega, by omega⟩), hN2, show N = k by omega]) dX8_composite_182
              · refine lv_aload_n hx hb dX8_composite_67 rfl (lv_at hl 2 rfl) ?_
                refine m_get hx hb hts hin8 hown hK hW 13 (by decide) (hts _ (by decide +kernel)) (v := .ref (ad 13)) rfl dX8_composite_68 ?_
                refine lv_iload hx hb dX8_composite_71 (lv_at hl 1 rfl) ?_
                refine m_ald (d := 13) (j := k) hx hb hK hW rfl (by omega) (show k < 30 from by omega) dX8_composite_73 ?_
                have r9 : (0 : Int) ≤ τ 13 k ∧ τ 13 k ≤ 3 := hI.1 13 k
                refine lv_iload_n hx hb dX8_composite_74 rfl (lv_at hl 3 rfl) ?_
                refine z_icmp_ne (tgt := 87) hx hb (by omega) (by omega) dX8_composite_75 (by decide) (fun c10 => ?_) (fun c10 => ?_)
                · refine z_iconst hx hb dX8_composite_87 ?_
                  refine lv_istore (lv' := [(9, .int (iI ((-1)))), (6, .long (lL (sm (cpS τ x a b t u) k))), (8, .int (iI ((k : Int)))), (0, .ref (ad 0)), (1, .int (iI (x))), (2, .int (iI (a))), (3, .int (iI (b))), (4, .int (iI (t))), (5, .int (iI (u)))]) hx hb dX8_composite_88 hl (by decide) rfl (fun ls hl => ?_)
                  refine lv_iload hx hb dX8_composite_90 (lv_at hl 0 rfl) ?_
                  refine z_iconst hx hb dX8_composite_92 ?_
                  refine z_icmp_eq (tgt := 174) hx hb (by omega) (by omega) dX8_composite_93 (by decide) (fun c11 => ?_) (fun c11 => ?_)
                  · refine z_iinc (k := 2) (lv' := [(8, .int (iI ((k : Int) + 1))), (9, .int (iI ((-1)))), (6, .long (lL (sm (cpS τ x a b t u) k))), (0, .ref (ad 0)), (1, .int (iI (x))), (2, .int (iI (a))), (3, .int (iI (b))), (4, .int (iI (t))), (5, .int (iI (u)))]) hx hb dX8_composite_174 hl rfl (by decide) rfl (fun ls hl => ?_)
                    refine lv_goto (tgt := 58) hx hb dX8_composite_177 (by decide) ?_
                    exact ih58 (k + 1) (sm (cpS τ x a b t u) k) ((k : Int) + 1)  (by rw [sm_s]; first | rw [cp_no (by omega), Int.add_zero] | rw [cp_2 (by omega) (by omega)] | rw [cp_1 (by omega) (by omega)]) (by omega) (by omega) (by omega)  ls (lv_sub hl [2, 0, 3, 4, 5, 6, 7, 8] rfl)
                  · exfalso; omega
                · refine lv_aload_n hx hb dX8_composite_78 rfl (lv_at hl 2 rfl) ?_
                  refine lv_iload hx hb dX8_composite_79 (lv_at hl 1 rfl) ?_
                  refine m_call (n := 1) (As := [.int (iI ((k : Int)))]) (rest := []) hx hb hml hts hown hK hW (c8_gradeAt l D cI cZ ad τ hI (k : Int) (by omega)) gX8_composite_X8_gradeAt rfl rfl rfl (by decide +kernel) ⟨by decide, by decide⟩ rfl hl.1 rfl (Nat.le_of_ble_eq_true rfl) ⟨Nat.zero_le _, Nat.zero_le _⟩ dX8_composite_81 ?_
                  have r12 := ga_r hI.1 (k : Int)
                  refine lv_goto (tgt := 88) hx hb dX8_composite_84 (by decide) ?_
                  refine lv_istore (lv' := [(9, .int (iI (gaO τ (k : Int)))), (6, .long (lL (sm (cpS τ x a b t u) k))), (8, .int (iI ((k : Int)))), (0, .ref (ad 0)), (1, .int (iI (x))), (2, .int (iI (a))), (3, .int (iI (b))), (4, .int (iI (t))), (5, .int (iI (u)))]) hx hb dX8_composite_88 hl (by decide) rfl (fun ls hl => ?_)
                  refine lv_iload hx hb dX8_composite_90 (lv_at hl 0 rfl) ?_
                  refine z_iconst hx hb dX8_composite_92 ?_
                  refine z_icmp_eq (tgt := 174) hx hb (by omega) (by omega) dX8_composite_93 (by decide) (fun c13 => ?_) (fun c13 => ?_)
                  · refine z_iinc (k := 2) (lv' := [(8, .int (iI ((k : Int) + 1))), (9, .int (iI (gaO τ (k : Int)))), (6, .long (lL (sm (cpS τ x a b t u) k))), (0, .ref (ad 0)), (1, .int (iI (x))), (2, .int (iI (a))), (3, .int (iI (b))), (4, .int (iI (t))), (5, .int (iI (u)))]) hx hb dX8_composite_174 hl rfl (by decide) rfl (fun ls hl => ?_)
                    refine lv_goto (tgt := 58) hx hb dX8_composite_177 (by decide) ?_
                    exact ih58 (k + 1) (sm (cpS τ x a b t u) k) ((k : Int) + 1)  (by rw [sm_s]; first | rw [cp_no (by omega), Int.add_zero] | rw [cp_2 (by omega) (by omega)] | rw [cp_1 (by omega) (by omega)]) (by omega) (by omega) (by omega)  ls (lv_sub hl [2, 0, 3, 4, 5, 6, 7, 8] rfl)
                  · refine lv_iload_n hx hb dX8_composite_96 rfl (lv_at hl 5 rfl) ?_
                    refine lv_iload_n hx hb dX8_composite_97 rfl (lv_at hl 6 rfl) ?_
                    refine lv_aload_n hx hb dX8_composite_98 rfl (lv_at hl 3 rfl) ?_
                    refine m_get hx hb hts hin8 hown hK hW 14 (by decide) (hts _ (by decide +kernel)) (v := .ref (ad 14)) rfl dX8_composite_99 ?_
                    refine lv_iload hx hb dX8_composite_102 (lv_at hl 2 rfl) ?_
                    refine m_ald (d := 14) (j := k) hx hb hK hW rfl (by omega) (show k < 30 from by omega) dX8_composite_104 ?_
                    have r14 : (0 : Int) ≤ τ 14 k ∧ τ 14 k ≤ 20000 := hI.1 14 k
                    refine lv_aload_n hx hb dX8_composite_105 rfl (lv_at hl 3 rfl) ?_
                    refine m_get hx hb hts hin8 hown hK hW 15 (by decide) (hts _ (by decide +kernel)) (v := .ref (ad 15)) rfl dX8_composite_106 ?_
                    refine lv_iload hx hb dX8_composite_109 (lv_at hl 2 rfl) ?_
                    refine m_ald (d := 15) (j := k) hx hb hK hW rfl (by omega) (show k < 30 from by omega) dX8_composite_111 ?_
                    have r15 : (0 : Int) ≤ τ 15 k ∧ τ 15 k ≤ 20000 := hI.1 15 k
                    refine s_call (n := 4) (As := [.int (iI (a)), .int (iI (b)), .int (iI (τ 14 k)), .int (iI (τ 15 k))]) (rest := []) hx hb hml hts hown (c8_common l a (by omega) b (by omega) (τ 14 k) (by omega) (τ 15 k) (by omega) (by omega)) gX8_composite_X8_common rfl rfl rfl (by decide +kernel) ⟨by decide, by decide⟩ rfl hl.1 rfl (Nat.le_of_ble_eq_true rfl) ⟨Nat.zero_le _, Nat.zero_le _⟩ dX8_composite_112 ?_
                    refine z_i2l hx hb (by have := cm_r a b (τ 14 k) (τ 15 k); unfold cm; omega) dX8_composite_115 ?_
                    refine lv_lstore (lv' := [(10, .long (lL (cm a b (τ 14 k) (τ 15 k)))), (9, .int (iI (gaO τ (k : Int)))), (6, .long (lL (sm (cpS τ x a b t u) k))), (8, .int (iI ((k : Int)))), (0, .ref (ad 0)), (1, .int (iI (x))), (2, .int (iI (a))), (3, .int (iI (b))), (4, .int (iI (t))), (5, .int (iI (u)))]) hx hb dX8_composite_116 hl (by decide) rfl (fun ls hl => ?_)
                    have jn138 : ∀ xj : Int, xj = (if u = 0 then loO τ (gaO τ k).toNat else upO τ (gaO τ k).toNat) → ∀ ls : Array Slot, lv_has ls 13 [(10, .long (lL (cm a b (τ 14 k) (τ 15 k)))), (9, .int (iI (gaO τ (k : Int)))), (6, .long (lL (sm (cpS τ x a b t u) k))), (8, .int (iI ((k : Int)))), (0, .ref (ad 0)), (1, .int (iI (x))), (2, .int (iI (a))), (3, .int (iI (b))), (4, .int (iI (t))), (5, .int (iI (u)))] → W p l e { frames := 5, cells := 0, slots := 0, locals := 112 } s m [.ref (ad 0), .int (iI (x)), .int (iI (a)), .int (iI (b)), .int (iI (t)), .int (iI (u))].toArray below meth c s.heap [] 0 0 (MQ below (rL (spComp τ x a b t u)) [.ref (ad 0), .int (iI (x)), .int (iI (a)), .int (iI (b)), .int (iI (t)), .int (iI (u))].toArray s 0 0 (NoA)) (F0 m 138 ls (.int (iI xj) :: [])) := by
                      intro xj ej ls hl
                      subst ej
                      refine lv_istore (lv' := [(12, .int (iI (if u = 0 then loO τ (gaO τ k).toNat else upO τ (gaO τ k).toNat))), (10, .long (lL (cm a b (τ 14 k) (τ 15 k)))), (9, .int (iI (gaO τ (k : Int)))), (6, .long (lL (sm (cpS τ x a b t u) k))), (8, .int (iI ((k : Int)))), (0, .ref (ad 0)), (1, .int (iI (x))), (2, .int (iI (a))), (3, .int (iI (b))), (4, .int (iI (t))), (5, .int (iI (u)))]) hx hb dX8_composite_138 hl (by decide) rfl (fun ls hl => ?_)
                      have hl1 := lo_r hI.1 (gaO τ k).toNat
                      have hl2 := up_r hI.1 (gaO τ k).toNat
                      have hv : 0 ≤ (if u = 0 then loO τ (gaO τ k).toNat else upO τ (gaO τ k).toNat) ∧ (if u = 0 then loO τ (gaO τ k).toNat else upO τ (gaO τ k).toNat) ≤ 100000 := by split <;> omega
                      refine lv_lload hx hb dX8_composite_140 (lv_at hl 3 rfl) ?_
                      refine lv_iload hx hb dX8_composite_142 (lv_at hl 10 rfl) ?_
                      refine z_iconst hx hb dX8_composite_144 ?_
                      refine z_icmp_ne (tgt := 153) hx hb (by omega) (by omega) dX8_composite_145 (by decide) (fun c16 => ?_) (fun c16 => ?_)
                      · refine lv_lload hx hb dX8_composite_153 (lv_at hl 1 rfl) ?_
                        have jn169 : ∀ xj : Int, xj = (mnI (if u = 0 then loO τ (gaO τ k).toNat else upO τ (gaO τ k).toNat) t) → ∀ ls : Array Slot, lv_has ls 13 [(12, .int (iI (if u = 0 then loO τ (gaO τ k).toNat else upO τ (gaO τ k).toNat))), (10, .long (lL (cm a b (τ 14 k) (τ 15 k)))), (9, .int (iI (gaO τ (k : Int)))), (6, .long (lL (sm (cpS τ x a b t u) k))), (8, .int (iI ((k : Int)))), (0, .ref (ad 0)), (1, .int (iI (x))), (2, .int (iI (a))), (3, .int (iI (b))), (4, .int (iI (t))), (5, .int (iI (u)))] → W p l e { frames := 5, cells := 0, slots := 0, locals := 112 } s m [.ref (ad 0), .int (iI (x)), .int (iI (a)), .int (iI (b)), .int (iI (t)), .int (iI (u))].toArray below meth c s.heap [] 0 0 (MQ below (rL (spComp τ x a b t u)) [.ref (ad 0), .int (iI (x)), .int (iI (a)), .int (iI (b)), .int (iI (t)), .int (iI (u))].toArray s 0 0 (NoA)) (F0 m 169 ls (.int (iI xj) :: .long (lL (cm a b (τ 14 k) (τ 15 k))) :: .long (lL (sm (cpS τ x a b t u) k)) :: [])) := by
                          intro xj ej ls hl
                          subst ej
                          have hmn : 0 ≤ mnI (if u = 0 then loO τ (gaO τ k).toNat else upO τ (gaO τ k).toNat) t ∧ mnI (if u = 0 then loO τ (gaO τ k).toNat else upO τ (gaO τ k).toNat) t ≤ 100000 := mn_r hv (by omega)
                          refine z_i2l hx hb (by omega) dX8_composite_169 ?_
                          refine z_lmul hx hb dX8_composite_170 ?_
                          refine z_ladd hx hb dX8_composite_171 ?_
                          refine lv_lstore (lv' := [(6, .long (lL ((sm (cpS τ x a b t u) k) + ((cm a b (τ 14 k) (τ 15 k)) * (mnI (if u = 0 then loO τ (gaO τ k).toNat else upO τ (gaO τ k).toNat) t))))), (12, .int (iI (if u = 0 then loO τ (gaO τ k).toNat else upO τ (gaO τ k).toNat))), (10, .long (lL (cm a b (τ 14 k) (τ 15 k)))), (9, .int (iI (gaO τ (k : Int)))), (8, .int (iI ((k : Int)))), (0, .ref (ad 0)), (1, .int (iI (x))), (2, .int (iI (a))), (3, .int (iI (b))), (4, .int (iI (t))), (5, .int (iI (u)))]) hx hb dX8_composite_172 hl (by decide) rfl (fun ls hl => ?_)
                          refine z_iinc (k := 4) (lv' := [(8, .int (iI ((k : Int) + 1))), (6, .long (lL ((sm (cpS τ x a b t u) k) + ((cm a b (τ 14 k) (τ 15 k)) * (mnI (if u = 0 then loO τ (gaO τ k).toNat else upO τ (gaO τ k).toNat) t))))), (12, .int (iI (if u = 0 then loO τ (gaO τ k).toNat else upO τ (gaO τ k).toNat))), (10, .long (lL (cm a b (τ 14 k) (τ 15 k)))), (9, .int (iI (gaO τ (k : Int)))), (0, .ref (ad 0)), (1, .int (iI (x))), (2, .int (iI (a))), (3, .int (iI (b))), (4, .int (iI (t))), (5, .int (iI (u)))]) hx hb dX8_composite_174 hl rfl (by decide) rfl (fun ls hl => ?_)
                          refine lv_goto (tgt := 58) hx hb dX8_composite_177 (by decide) ?_
                          exact ih58 (k + 1) ((sm (cpS τ x a b t u) k) + ((cm a b (τ 14 k) (τ 15 k)) * (mnI (if u = 0 then loO τ (gaO τ k).toNat else upO τ (gaO τ k).toNat) t))) ((k : Int) + 1)  (by rw [sm_s]; first | rw [cp_no (by omega), Int.add_zero] | rw [cp_2 (by omega) (by omega)] | rw [cp_1 (by omega) (by omega)]) (by omega) (by omega) (by omega)  ls (lv_sub hl [1, 0, 5, 6, 7, 8, 9, 10] rfl)
                        refine lv_iload hx hb dX8_composite_155 (lv_at hl 0 rfl) ?_
                        refine lv_iload hx hb dX8_composite_157 (lv_at hl 9 rfl) ?_
                        refine z_icmp_ge (tgt := 167) hx hb (by omega) (by omega) dX8_composite_159 (by decide) (fun c17 => ?_) (fun c17 => ?_)
                        · refine lv_iload hx hb dX8_composite_167 (lv_at hl 9 rfl) ?_
                          exact jn169 t (mn_f (by omega)).symm ls (lv_sub hl [0, 1, 2, 3, 4, 5, 6, 7, 8, 9, 10] rfl)
                        · refine lv_iload hx hb dX8_composite_162 (lv_at hl 0 rfl) ?_
                          refine lv_goto (tgt := 169) hx hb dX8_composite_164 (by decide) ?_
                          exact jn169 (if u = 0 then loO τ (gaO τ k).toNat else upO τ (gaO τ k).toNat) (mn_t (by omega)).symm ls (lv_sub hl [0, 1, 2, 3, 4, 5, 6, 7, 8, 9, 10] rfl)
                      · refine lv_lload hx hb dX8_composite_148 (lv_at hl 1 rfl) ?_
                        refine lv_goto (tgt := 171) hx hb dX8_composite_150 (by decide) ?_
                        refine z_ladd hx hb dX8_composite_171 ?_
                        refine lv_lstore (lv' := [(6, .long (lL ((sm (cpS τ x a b t u) k) + (cm a b (τ 14 k) (τ 15 k))))), (12, .int (iI (if u = 0 then loO τ (gaO τ k).toNat else upO τ (gaO τ k).toNat))), (10, .long (lL (cm a b (τ 14 k) (τ 15 k)))), (9, .int (iI (gaO τ (k : Int)))), (8, .int (iI ((k : Int)))), (0, .ref (ad 0)), (1, .int (iI (x))), (2, .int (iI (a))), (3, .int (iI (b))), (4, .int (iI (t))), (5, .int (iI (u)))]) hx hb dX8_composite_172 hl (by decide) rfl (fun ls hl => ?_)
                        refine z_iinc (k := 4) (lv' := [(8, .int (iI ((k : Int) + 1))), (6, .long (lL ((sm (cpS τ x a b t u) k) + (cm a b (τ 14 k) (τ 15 k))))), (12, .int (iI (if u = 0 then loO τ (gaO τ k).toNat else upO τ (gaO τ k).toNat))), (10, .long (lL (cm a b (τ 14 k) (τ 15 k)))), (9, .int (iI (gaO τ (k : Int)))), (0, .ref (ad 0)), (1, .int (iI (x))), (2, .int (iI (a))), (3, .int (iI (b))), (4, .int (iI (t))), (5, .int (iI (u)))]) hx hb dX8_composite_174 hl rfl (by decide) rfl (fun ls hl => ?_)
                        refine lv_goto (tgt := 58) hx hb dX8_composite_177 (by decide) ?_
                        exact ih58 (k + 1) ((sm (cpS τ x a b t u) k) + (cm a b (τ 14 k) (τ 15 k))) ((k : Int) + 1)  (by rw [sm_s]; first | rw [cp_no (by omega), Int.add_zero] | rw [cp_2 (by omega) (by omega)] | rw [cp_1 (by omega) (by omega)]) (by omega) (by omega) (by omega)  ls (lv_sub hl [1, 0, 5, 6, 7, 8, 9, 10] rfl)
                    refine lv_iload hx hb dX8_composite_118 (lv_at hl 9 rfl) ?_
                    refine z_if_ne (tgt := 132) hx hb (by omega) dX8_composite_120 (by decide) (fun c18 => ?_) (fun c18 => ?_)
                    · refine lv_aload_n hx hb dX8_composite_132 rfl (lv_at hl 4 rfl) ?_
                      refine lv_iload hx hb dX8_composite_133 (lv_at hl 1 rfl) ?_
                      refine m_call (n := 1) (As := [.int (iI (gaO τ (k : Int)))]) (rest := []) hx hb hml hts hown hK hW (c8_upper l D cI cZ ad τ hI.1 ((gaO τ (k : Int)).toNat) (gaO τ (k : Int)) (by omega) (by omega)) gX8_composite_X8_upper rfl rfl rfl (by decide +kernel) ⟨by decide, by decide⟩ rfl hl.1 rfl (Nat.le_of_ble_eq_true rfl) ⟨Nat.zero_le _, Nat.zero_le _⟩ dX8_composite_135 ?_
                      have r19 := up_r hI.1 ((gaO τ (k : Int)).toNat)
                      exact jn138 (upO τ ((gaO τ (k : Int)).toNat)) (by first | exact (if_pos (by omega)).symm | exact (if_neg (by omega)).symm) ls (lv_sub hl [0, 1, 2, 3, 4, 5, 6, 7, 8, 9] rfl)
                    · refine lv_aload_n hx hb dX8_composite_123 rfl (lv_at hl 4 rfl) ?_
                      refine lv_iload hx hb dX8_composite_124 (lv_at hl 1 rfl) ?_
                      refine m_call (n := 1) (As := [.int (iI (gaO τ (k : Int)))]) (rest := []) hx hb hml hts hown hK hW (c8_lower l D cI cZ ad τ hI.1 ((gaO τ (k : Int)).toNat) (gaO τ (k : Int)) (by omega) (by omega)) gX8_composite_X8_lower rfl rfl rfl (by decide +kernel) ⟨by decide, by decide⟩ rfl hl.1 rfl (Nat.le_of_ble_eq_true rfl) ⟨Nat.zero_le _, Nat.zero_le _⟩ dX8_composite_126 ?_
                      have r20 := lo_r hI.1 ((gaO τ (k : Int)).toNat)
                      refine lv_goto (tgt := 138) hx hb dX8_composite_129 (by decide) ?_
                      exact jn138 (loO τ ((gaO τ (k : Int)).toNat)) (if_pos c18).symm ls (lv_sub hl [0, 1, 2, 3, 4, 5, 6, 7, 8, 9] rfl)
          exact lp58 (N + 1) 0 0 0  rfl (by omega) (by omega) (by omega)  ls (lv_sub hl [1, 0, 2, 3, 4, 5, 6, 7] rfl)
        · refine z_ldc2 (n := (-102)) hx hb hown (hts (.constantLong RX8 200 (-102)) (by decide +kernel)) (by decide) dX8_composite_48 ?_
          exact s_lret hx hb hr hlocks (by unfold spComp; repeat (first | rw [if_pos (by first | assumption | omega)] | rw [if_neg (by first | assumption | omega | (intro hk; exact hk (by assumption)))])) dX8_composite_51
  · refine z_ldc2 (n := (-101)) hx hb hown (hts (.constantLong RX8 196 (-101)) (by decide +kernel)) (by decide) dX8_composite_8 ?_
    exact s_lret hx hb hr hlocks (by unfold spComp; repeat (first | rw [if_pos (by first | assumption | omega)] | rw [if_neg (by first | assumption | omega | (intro hk; exact hk (by assumption)))])) dX8_composite_11
set_option maxHeartbeats 4000000 in
set_option maxRecDepth 100000 in
theorem c8_mayGo (l : Launch) (D : va_G) (cI cZ : ClassId) (ad : Nat → Nat) (τ : Tau) (hI : Rng τ) (h : Nat) (zh : Int) (hzh : zh = (h : Int)) (g : Nat) (zg : Int) (hzg : zg = (g : Int)) (i : Nat) (zi : Int) (hzi : zi = (i : Int)) (j : Nat) (zj : Int) (hzj : zj = (j : Int)) (h0 : h < 4) (h1 : g < 4) (h2 : i < 20) (h3 : j < 20) : Met l yX8_mayGo wsX8_mayGo { frames := 1, cells := 0, slots := 0, locals := 22 } (mPc D cI cZ ad τ [.ref (ad 0), .int (iI zh), .int (iI zg), .int (iI zi), .int (iI zj)]) (rS (bI (cdO τ (2 * h) i = cdO τ (2 * g) j))) 0 0 NoA := by
  subst hzh
  subst hzg
  subst hzi
  subst hzj
  refine m_start (by decide) rfl (Nat.le_of_ble_eq_true rfl) ?_
  intro p e s m below meth c hx hb hr hlocks hml hts hown hW hK ls hl
  have hin8 : ∀ w ∈ wsX80, w ∈ wsX8_mayGo := by decide +kernel
  have hl : lv_has ls 5 [(0, .ref (ad 0)), (1, .int (iI ((h : Int)))), (2, .int (iI ((g : Int)))), (3, .int (iI ((i : Int)))), (4, .int (iI ((j : Int))))] := hl
  refine lv_aload_n hx hb dX8_mayGo_0 rfl (lv_at hl 0 rfl) ?_
  refine z_iconst hx hb dX8_mayGo_1 ?_
  refine lv_iload_n hx hb dX8_mayGo_2 rfl (lv_at hl 1 rfl) ?_
  refine z_imul hx hb dX8_mayGo_3 ?_
  refine lv_iload_n hx hb dX8_mayGo_4 rfl (lv_at hl 3 rfl) ?_
  refine m_call (n := 2) (As := [.int (iI (2 * (h : Int))), .int (iI ((i : Int)))]) (rest := []) hx hb hml hts hown hK hW (c8_codeOf l D cI cZ ad τ hI (2 * h) (2 * (h : Int)) (by omega) i (i : Int) (by omega) (by omega) (by omega)) gX8_mayGo_X8_codeOf rfl rfl rfl (by decide +kernel) ⟨by decide, by decide⟩ rfl hl.1 rfl (Nat.le_of_ble_eq_true rfl) ⟨Nat.zero_le _, Nat.zero_le _⟩ dX8_mayGo_5 ?_
  have r1 := cd_r hI (2 * h) i
  refine lv_aload_n hx hb dX8_mayGo_8 rfl (lv_at hl 0 rfl) ?_
  refine z_iconst hx hb dX8_mayGo_9 ?_
  refine lv_iload_n hx hb dX8_mayGo_10 rfl (lv_at hl 2 rfl) ?_
  refine z_imul hx hb dX8_mayGo_11 ?_
  refine lv_iload hx hb dX8_mayGo_12 (lv_at hl 4 rfl) ?_
  refine m_call (n := 2) (As := [.int (iI (2 * (g : Int))), .int (iI ((j : Int)))]) (rest := [.int (iI (cdO τ (2 * h) i))]) hx hb hml hts hown hK hW (c8_codeOf l D cI cZ ad τ hI (2 * g) (2 * (g : Int)) (by omega) j (j : Int) (by omega) (by omega) (by omega)) gX8_mayGo_X8_codeOf rfl rfl rfl (by decide +kernel) ⟨by decide, by decide⟩ rfl hl.1 rfl (Nat.le_of_ble_eq_true rfl) ⟨Nat.zero_le _, Nat.zero_le _⟩ dX8_mayGo_14 ?_
  have r2 := cd_r hI (2 * g) j
  refine z_icmp_ne (tgt := 24) hx hb (by omega) (by omega) dX8_mayGo_17 (by decide) (fun c3 => ?_) (fun c3 => ?_)
  · refine z_iconst hx hb dX8_mayGo_24 ?_
    exact s_zret hx hb hr hlocks ((bI_f (by omega)).symm) dX8_mayGo_25
  · refine z_iconst hx hb dX8_mayGo_20 ?_
    refine lv_goto (tgt := 25) hx hb dX8_mayGo_21 (by decide) ?_
    exact s_zret hx hb hr hlocks ((bI_t (by omega)).symm) dX8_mayGo_25
set_option maxHeartbeats 4000000 in
set_option maxRecDepth 100000 in
theorem c8_pairCost (l : Launch) (D : va_G) (cI cZ : ClassId) (ad : Nat → Nat) (τ : Tau) (hI : Rng τ) (h : Nat) (zh : Int) (hzh : zh = (h : Int)) (g : Nat) (zg : Int) (hzg : zg = (g : Int)) (i : Nat) (zi : Int) (hzi : zi = (i : Int)) (j : Nat) (zj : Int) (hzj : zj = (j : Int)) (h0 : h < 4) (h1 : g < 4) (h2 : i < 20) (h3 : j < 20) : Met l yX8_pairCost wsX8_pairCost { frames := 2, cells := 0, slots := 0, locals := 44 } (mPc D cI cZ ad τ [.ref (ad 0), .int (iI zh), .int (iI zg), .int (iI zi), .int (iI zj)]) (rS (pcO τ h g i j)) 0 0 NoA := by
  subst hzh
  subst hzg
  subst hzi
  subst hzj
  refine m_start (by decide) rfl (Nat.le_of_ble_eq_true rfl) ?_
  intro p e s m below meth c hx hb hr hlocks hml hts hown hW hK ls hl
  have hin8 : ∀ w ∈ wsX80, w ∈ wsX8_pairCost := by decide +kernel
  have hl : lv_has ls 5 [(0, .ref (ad 0)), (1, .int (iI ((h : Int)))), (2, .int (iI ((g : Int)))), (3, .int (iI ((i : Int)))), (4, .int (iI ((j : Int))))] := hl
  refine lv_aload_n hx hb dX8_pairCost_0 rfl (lv_at hl 0 rfl) ?_
  refine z_iconst hx hb dX8_pairCost_1 ?_
  refine lv_iload_n hx hb dX8_pairCost_2 rfl (lv_at hl 1 rfl) ?_
  refine z_imul hx hb dX8_pairCost_3 ?_
  refine lv_iload_n hx hb dX8_pairCost_4 rfl (lv_at hl 3 rfl) ?_
  refine m_call (n := 2) (As := [.int (iI (2 * (h : Int))), .int (iI ((i : Int)))]) (rest := []) hx hb hml hts hown hK hW (c8_thick l D cI cZ ad τ hI (2 * h) (2 * (h : Int)) (by omega) i (i : Int) (by omega) (by omega) (by omega)) gX8_pairCost_X8_thick rfl rfl rfl (by decide +kernel) ⟨by decide, by decide⟩ rfl hl.1 rfl (Nat.le_of_ble_eq_true rfl) ⟨Nat.zero_le _, Nat.zero_le _⟩ dX8_pairCost_5 ?_
  have r1 := th_r hI (2 * h) i
  refine lv_aload_n hx hb dX8_pairCost_8 rfl (lv_at hl 0 rfl) ?_
  refine z_iconst hx hb dX8_pairCost_9 ?_
  refine lv_iload_n hx hb dX8_pairCost_10 rfl (lv_at hl 2 rfl) ?_
  refine z_imul hx hb dX8_pairCost_11 ?_
  refine lv_iload hx hb dX8_pairCost_12 (lv_at hl 4 rfl) ?_
  refine m_call (n := 2) (As := [.int (iI (2 * (g : Int))), .int (iI ((j : Int)))]) (rest := [.int (iI (thO τ (2 * h) i))]) hx hb hml hts hown hK hW (c8_thick l D cI cZ ad τ hI (2 * g) (2 * (g : Int)) (by omega) j (j : Int) (by omega) (by omega) (by omega)) gX8_pairCost_X8_thick rfl rfl rfl (by decide +kernel) ⟨by decide, by decide⟩ rfl hl.1 rfl (Nat.le_of_ble_eq_true rfl) ⟨Nat.zero_le _, Nat.zero_le _⟩ dX8_pairCost_14 ?_
  have r2 := th_r hI (2 * g) j
  refine s_call (n := 2) (As := [.int (iI (thO τ (2 * h) i)), .int (iI (thO τ (2 * g) j))]) (rest := []) hx hb hml hts hown (c8_far l (thO τ (2 * h) i) (by omega) (thO τ (2 * g) j) (by omega) (by omega)) gX8_pairCost_X8_far rfl rfl rfl (by decide +kernel) ⟨by decide, by decide⟩ rfl hl.1 rfl (Nat.le_of_ble_eq_true rfl) ⟨Nat.zero_le _, Nat.zero_le _⟩ dX8_pairCost_17 ?_
  refine lv_aload_n hx hb dX8_pairCost_20 rfl (lv_at hl 0 rfl) ?_
  refine m_get hx hb hts hin8 hown hK hW 26 (by decide) (hts _ (by decide +kernel)) (v := .ref (ad 26)) rfl dX8_pairCost_21 ?_
  refine z_bipush hx hb dX8_pairCost_24 (by decide) ?_
  refine lv_iload_n hx hb dX8_pairCost_26 rfl (lv_at hl 3 rfl) ?_
  refine z_iconst hx hb dX8_pairCost_27 ?_
  refine z_iadd hx hb dX8_pairCost_28 ?_
  refine z_imul hx hb dX8_pairCost_29 ?_
  refine lv_iload hx hb dX8_pairCost_30 (lv_at hl 4 rfl) ?_
  refine z_iadd hx hb dX8_pairCost_32 ?_
  refine z_iconst hx hb dX8_pairCost_33 ?_
  refine z_iadd hx hb dX8_pairCost_34 ?_
  refine m_ald (d := 26) (j := ((21 * (i + 1)) + j) + 1) hx hb hK hW rfl (by omega) (show ((21 * (i + 1)) + j) + 1 < 441 from by omega) dX8_pairCost_35 ?_
  have r3 : (-2147483648 : Int) ≤ τ 26 (((21 * (i + 1)) + j) + 1) ∧ τ 26 (((21 * (i + 1)) + j) + 1) ≤ 2147483647 := hI 26 (((21 * (i + 1)) + j) + 1)
  refine z_iadd hx hb dX8_pairCost_36 ?_
  exact s_iret hx hb hr hlocks (rfl) dX8_pairCost_37
set_option maxHeartbeats 4000000 in
set_option maxRecDepth 100000 in
theorem c8_digest (l : Launch) (D : va_G) (cI cZ : ClassId) (ad : Nat → Nat) (τ : Tau) (hI : Rng τ)   : Met l yX8_digest wsX8_digest { frames := 1, cells := 0, slots := 0, locals := 22 } (mPc D cI cZ ad τ [.ref (ad 0)]) (rL (spDig τ)) 0 0 NoA := by
  refine m_start (by decide) rfl (Nat.le_of_ble_eq_true rfl) ?_
  intro p e s m below meth c hx hb hr hlocks hml hts hown hW hK ls hl
  have hin8 : ∀ w ∈ wsX80, w ∈ wsX8_digest := by decide +kernel
  have hl : lv_has ls 6 [(0, .ref (ad 0))] := hl
  obtain ⟨NH, hNH⟩ : ∃ N : Nat, τ 0 0 = N := ⟨(τ 0 0).toNat, by have : (0 : Int) ≤ τ 0 0 ∧ τ 0 0 ≤ 4 := hI 0 0; omega⟩
  have hNH2 : (τ 0 0).toNat = NH := by omega
  have hNH3 : NH ≤ 4 := by have : (0 : Int) ≤ τ 0 0 ∧ τ 0 0 ≤ 4 := hI 0 0; omega
  obtain ⟨NS, hNS⟩ : ∃ N : Nat, τ 12 0 = N := ⟨(τ 12 0).toNat, by have : (0 : Int) ≤ τ 12 0 ∧ τ 12 0 ≤ 30 := hI 12 0; omega⟩
  have hNS2 : (τ 12 0).toNat = NS := by omega
  have hNS3 : NS ≤ 30 := by have : (0 : Int) ≤ τ 12 0 ∧ τ 12 0 ≤ 30 := hI 12 0; omega
  obtain ⟨NB, hNB⟩ : ∃ N : Nat, τ 18 0 = N := ⟨(τ 18 0).toNat, by have : (0 : Int) ≤ τ 18 0 ∧ τ 18 0 ≤ 6 := hI 18 0; omega⟩
  have hNB2 : (τ 18 0).toNat = NB := by omega
  have hNB3 : NB ≤ 6 := by have : (0 : Int) ≤ τ 18 0 ∧ τ 18 0 ≤ 6 := hI 18 0; omega
  refine z_ldc2 (n := 173) hx hb hown (hts (.constantLong RX8 216 (173)) (by decide +kernel)) (by decide) dX8_digest_0 ?_
  refine lv_lstore_n (lv' := [(1, .long (lL (173))), (0, .ref (ad 0))]) hx hb dX8_digest_3 rfl hl (by decide) rfl (fun ls hl => ?_)
  refine z_iconst hx hb dX8_digest_4 ?_
  refine lv_istore_n (lv' := [(3, .int (iI (0))), (1, .long (lL (173))), (0, .ref (ad 0))]) hx hb dX8_digest_5 rfl hl (by decide) rfl (fun ls hl => ?_)
  have lp6 : ∀ (n6 h : Nat) (x1 x3 : Int), x1 = fo (fun h d => dgHole τ h d) 173 h → x3 = (h : Int) → h ≤ NH → NH + 1 ≤ h + n6 → ∀ ls : Array Slot, lv_has ls 6 [(1, .long (lL (x1))), (3, .int (iI (x3))), (0, .ref (ad 0))] → W p l e { frames := 1, cells := 0, slots := 0, locals := 22 } s m [.ref (ad 0)].toArray below meth c s.heap [] 0 0 (MQ below (rL (spDig τ)) [.ref (ad 0)].toArray s 0 0 (NoA)) (F0 m 6 ls []) := by
    intro n6
    induction n6 with
    | zero => intro h x1 x3  ex1 ex3 hk1 hk2; exact absurd hk2 (by omega)
    | succ n6 ih6 =>
      intro h x1 x3  ex1 ex3 hk1 hk2  ls hl
      subst ex1
      subst ex3
      obtain ⟨NR, hNR⟩ : ∃ N : Nat, τ 1 h = N := ⟨(τ 1 h).toNat, by have : (0 : Int) ≤ τ 1 h ∧ τ 1 h ≤ 20 := hI 1 h; omega⟩
      have hNR2 : (τ 1 h).toNat = NR := by omega
      have hNR3 : NR ≤ 20 := by have : (0 : Int) ≤ τ 1 h ∧ τ 1 h ≤ 20 := hI 1 h; omega
      obtain ⟨NM, hNM⟩ : ∃ N : Nat, τ 4 h = N := ⟨(τ 4 h).toNat, by have : (0 : Int) ≤ τ 4 h ∧ τ 4 h ≤ 20 := hI 4 h; omega⟩
      have hNM2 : (τ 4 h).toNat = NM := by omega
      have hNM3 : NM ≤ 20 := by have : (0 : Int) ≤ τ 4 h ∧ τ 4 h ≤ 20 := hI 4 h; omega
      refine lv_iload_n hx hb dX8_digest_6 rfl (lv_at hl 1 rfl) ?_
      refine lv_aload_n hx hb dX8_digest_7 rfl (lv_at hl 2 rfl) ?_
      refine m_get hx hb hts hin8 hown hK hW 0 (by decide) (hts _ (by decide +kernel)) (v := .int (iI (τ 0 0))) rfl dX8_digest_8 ?_
      have r1 : (0 : Int) ≤ τ 0 0 ∧ τ 0 0 ≤ 4 := hI 0 0
      refine z_icmp_ge (tgt := 204) hx hb (by omega) (by omega) dX8_digest_11 (by decide) (fun c2 => ?_) (fun c2 => ?_)
      · refine z_iconst hx hb dX8_digest_204 ?_
        refine lv_istore_n (lv' := [(3, .int (iI (0))), (1, .long (lL (fo (fun h d => dgHole τ h d) 173 h))), (0, .ref (ad 0))]) hx hb dX8_digest_205 rfl hl (by decide) rfl (fun ls hl => ?_)
        have lp206 : ∀ (n206 k : Nat) (x1 x3 : Int), x1 = fo (fun k d => 31 * d + τ 11 k) (fo (fun h d => dgHole τ h d) 173 NH) k → x3 = (k : Int) → k ≤ 10 → 10 + 1 ≤ k + n206 → ∀ ls : Array Slot, lv_has ls 6 [(1, .long (lL (x1))), (3, .int (iI (x3))), (0, .ref (ad 0))] → W p l e { frames := 1, cells := 0, slots := 0, locals := 22 } s m [.ref (ad 0)].toArray below meth c s.heap [] 0 0 (MQ below (rL (spDig τ)) [.ref (ad 0)].toArray s 0 0 (NoA)) (F0 m 206 ls []) := by
          intro n206
          induction n206 with
          | zero => intro k x1 x3  ex1 ex3 hk1 hk2; exact absurd hk2 (by omega)
          | succ n206 ih206 =>
            intro k x1 x3  ex1 ex3 hk1 hk2  ls hl
            subst ex1
            subst ex3
            refine lv_iload_n hx hb dX8_digest_206 rfl (lv_at hl 1 rfl) ?_
            refine z_bipush hx hb dX8_digest_207 (by decide) ?_
            refine z_icmp_ge (tgt := 232) hx hb (by omega) (by omega) dX8_digest_209 (by decide) (fun c3 => ?_) (fun c3 => ?_)
            · refine z_iconst hx hb dX8_digest_232 ?_
              refine lv_istore_n (lv' := [(3, .int (iI (0))), (1, .long (lL (fo (fun k d => 31 * d + τ 11 k) (fo (fun h d => dgHole τ h d) 173 NH) k))), (0, .ref (ad 0))]) hx hb dX8_digest_233 rfl hl (by decide) rfl (fun ls hl => ?_)
              have lp234 : ∀ (n234 i : Nat) (x1 x3 : Int), x1 = fo (fun k d => 31 * (31 * (31 * (31 * d + τ 13 k) + τ 14 k) + τ 15 k) + τ 16 k) (dgTab τ (fo (fun h d => dgHole τ h d) 173 NH)) i → x3 = (i : Int) → i ≤ NS → NS + 1 ≤ i + n234 → ∀ ls : Array Slot, lv_has ls 6 [(1, .long (lL (x1))), (3, .int (iI (x3))), (0, .ref (ad 0))] → W p l e { frames := 1, cells := 0, slots := 0, locals := 22 } s m [.ref (ad 0)].toArray below meth c s.heap [] 0 0 (MQ below (rL (spDig τ)) [.ref (ad 0)].toArray s 0 0 (NoA)) (F0 m 234 ls []) := by
                intro n234
                induction n234 with
                | zero => intro i x1 x3  ex1 ex3 hk1 hk2; exact absurd hk2 (by omega)
                | succ n234 ih234 =>
                  intro i x1 x3  ex1 ex3 hk1 hk2  ls hl
                  subst ex1
                  subst ex3
                  refine lv_iload_n hx hb dX8_digest_234 rfl (lv_at hl 1 rfl) ?_
                  refine lv_aload_n hx hb dX8_digest_235 rfl (lv_at hl 2 rfl) ?_
                  refine m_get hx hb hts hin8 hown hK hW 12 (by decide) (hts _ (by decide +kernel)) (v := .int (iI (τ 12 0))) rfl dX8_digest_236 ?_
                  have r4 : (0 : Int) ≤ τ 12 0 ∧ τ 12 0 ≤ 30 := hI 12 0
                  refine z_icmp_ge (tgt := 304) hx hb (by omega) (by omega) dX8_digest_239 (by decide) (fun c5 => ?_) (fun c5 => ?_)
                  · refine z_iconst hx hb dX8_digest_304 ?_
                    refine lv_istore_n (lv' := [(3, .int (iI (0))), (1, .long (lL (fo (fun k d => 31 * (31 * (31 * (31 * d + τ 13 k) + τ 14 k) + τ 15 k) + τ 16 k) (dgTab τ (fo (fun h d => dgHole τ h d) 173 NH)) i))), (0, .ref (ad 0))]) hx hb dX8_digest_305 rfl hl (by decide) rfl (fun ls hl => ?_)
                    have lp306 : ∀ (n306 b : Nat) (x1 x3 : Int), x1 = fo (fun b d => dgBat τ b d) (dgSam τ (dgTab τ (fo (fun h d => dgHole τ h d) 173 NH))) b → x3 = (b : Int) → b ≤ NB → NB + 1 ≤ b + n306 → ∀ ls : Array Slot, lv_has ls 6 [(1, .long (lL (x1))), (3, .int (iI (x3))), (0, .ref (ad 0))] → W p l e { frames := 1, cells := 0, slots := 0, locals := 22 } s m [.ref (ad 0)].toArray below meth c s.heap [] 0 0 (MQ below (rL (spDig τ)) [.ref (ad 0)].toArray s 0 0 (NoA)) (F0 m 306 ls []) := by
                      intro n306
                      induction n306 with
                      | zero => intro b x1 x3  ex1 ex3 hk1 hk2; exact absurd hk2 (by omega)
                      | succ n306 ih306 =>
                        intro b x1 x3  ex1 ex3 hk1 hk2  ls hl
                        subst ex1
                        subst ex3
                        obtain ⟨NP, hNP⟩ : ∃ N : Nat, τ 19 b = N := ⟨(τ 19 b).toNat, by have : (0 : Int) ≤ τ 19 b ∧ τ 19 b ≤ 16 := hI 19 b; omega⟩
                        have hNP2 : (τ 19 b).toNat = NP := by omega
                        have hNP3 : NP ≤ 16 := by have : (0 : Int) ≤ τ 19 b ∧ τ 19 b ≤ 16 := hI 19 b; omega
                        refine lv_iload_n hx hb dX8_digest_306 rfl (lv_at hl 1 rfl) ?_
                        refine lv_aload_n hx hb dX8_digest_307 rfl (lv_at hl 2 rfl) ?_
                        refine m_get hx hb hts hin8 hown hK hW 18 (by decide) (hts _ (by decide +kernel)) (v := .int (iI (τ 18 0))) rfl dX8_digest_308 ?_
                        have r6 : (0 : Int) ≤ τ 18 0 ∧ τ 18 0 ≤ 6 := hI 18 0
                        refine z_icmp_ge (tgt := 376) hx hb (by omega) (by omega) dX8_digest_311 (by decide) (fun c7 => ?_) (fun c7 => ?_)
                        · refine z_ldc2 (n := 31) hx hb hown (hts (.constantLong RX8 218 (31)) (by decide +kernel)) (by decide) dX8_digest_376 ?_
                          refine lv_lload_n hx hb dX8_digest_379 rfl (lv_at hl 0 rfl) ?_
                          refine z_lmul hx hb dX8_digest_380 ?_
                          refine lv_aload_n hx hb dX8_digest_381 rfl (lv_at hl 2 rfl) ?_
                          refine m_get hx hb hts hin8 hown hK hW 25 (by decide) (hts _ (by decide +kernel)) (v := .ref (ad 25)) rfl dX8_digest_382 ?_
                          refine z_iconst hx hb dX8_digest_385 ?_
                          refine m_ald (d := 25) (j := 0) hx hb hK hW rfl (by omega) (show 0 < 2 from by omega) dX8_digest_386 ?_
                          have r8 : (0 : Int) ≤ τ 25 0 ∧ τ 25 0 ≤ 1000 := hI 25 0
                          refine z_i2l hx hb (by omega) dX8_digest_387 ?_
                          refine z_ladd hx hb dX8_digest_388 ?_
                          refine lv_lstore_n (lv' := [(1, .long (lL ((31 * (fo (fun b d => dgBat τ b d) (dgSam τ (dgTab τ (fo (fun h d => dgHole τ h d) 173 NH))) b)) + (τ 25 0)))), (3, .int (iI ((b : Int)))), (0, .ref (ad 0))]) hx hb dX8_digest_389 rfl hl (by decide) rfl (fun ls hl => ?_)
                          refine z_ldc2 (n := 31) hx hb hown (hts (.constantLong RX8 218 (31)) (by decide +kernel)) (by decide) dX8_digest_390 ?_
                          refine lv_lload_n hx hb dX8_digest_393 rfl (lv_at hl 0 rfl) ?_
                          refine z_lmul hx hb dX8_digest_394 ?_
                          refine lv_aload_n hx hb dX8_digest_395 rfl (lv_at hl 2 rfl) ?_
                          refine m_get hx hb hts hin8 hown hK hW 25 (by decide) (hts _ (by decide +kernel)) (v := .ref (ad 25)) rfl dX8_digest_396 ?_
                          refine z_iconst hx hb dX8_digest_399 ?_
                          refine m_ald (d := 25) (j := 1) hx hb hK hW rfl (by omega) (show 1 < 2 from by omega) dX8_digest_400 ?_
                          have r9 : (0 : Int) ≤ τ 25 1 ∧ τ 25 1 ≤ 1000 := hI 25 1
                          refine z_i2l hx hb (by omega) dX8_digest_401 ?_
                          refine z_ladd hx hb dX8_digest_402 ?_
                          exact s_lret hx hb hr hlocks (by unfold spDig; rw [hNH2, hNB2, show NB = b by omega]) dX8_digest_403
                        · refine z_iconst hx hb dX8_digest_314 ?_
                          refine lv_istore (lv' := [(4, .int (iI (0))), (1, .long (lL (fo (fun b d => dgBat τ b d) (dgSam τ (dgTab τ (fo (fun h d => dgHole τ h d) 173 NH))) b))), (3, .int (iI ((b : Int)))), (0, .ref (ad 0))]) hx hb dX8_digest_315 hl (by decide) rfl (fun ls hl => ?_)
                          have lp317 : ∀ (n317 q : Nat) (x1 x4 : Int), x1 = fo (fun k d => dgPl τ (16 * b + k) d) (fo (fun b d => dgBat τ b d) (dgSam τ (dgTab τ (fo (fun h d => dgHole τ h d) 173 NH))) b) q → x4 = (q : Int) → q ≤ NP → NP + 1 ≤ q + n317 → ∀ ls : Array Slot, lv_has ls 6 [(1, .long (lL (x1))), (4, .int (iI (x4))), (3, .int (iI ((b : Int)))), (0, .ref (ad 0))] → W p l e { frames := 1, cells := 0, slots := 0, locals := 22 } s m [.ref (ad 0)].toArray below meth c s.heap [] 0 0 (MQ below (rL (spDig τ)) [.ref (ad 0)].toArray s 0 0 (NoA)) (F0 m 317 ls []) := by
                            intro n317
                            induction n317 with
                            | zero => intro q x1 x4  ex1 ex4 hk1 hk2; exact absurd hk2 (by omega)
                            | succ n317 ih317 =>
                              intro q x1 x4  ex1 ex4 hk1 hk2  ls hl
                              subst ex1
                              subst ex4
                              refine lv_iload hx hb dX8_digest_317 (lv_at hl 1 rfl) ?_
                              refine lv_aload_n hx hb dX8_digest_319 rfl (lv_at hl 3 rfl) ?_
                              refine m_get hx hb hts hin8 hown hK hW 19 (by decide) (hts _ (by decide +kernel)) (v := .ref (ad 19)) rfl dX8_digest_320 ?_
                              refine lv_iload_n hx hb dX8_digest_323 rfl (lv_at hl 2 rfl) ?_
                              refine m_ald (d := 19) (j := b) hx hb hK hW rfl (by omega) (show b < 6 from by omega) dX8_digest_324 ?_
                              have r10 : (0 : Int) ≤ τ 19 b ∧ τ 19 b ≤ 16 := hI 19 b
                              refine z_icmp_ge (tgt := 370) hx hb (by omega) (by omega) dX8_digest_325 (by decide) (fun c11 => ?_) (fun c11 => ?_)
                              · have e4 : fo (fun k d => dgPl τ (16 * b + k) d) (fo (fun b d => dgBat τ b d) (dgSam τ (dgTab τ (fo (fun h d => dgHole τ h d) 173 NH))) b) q = fo (fun b d => dgBat τ b d) (dgSam τ (dgTab τ (fo (fun h d => dgHole τ h d) 173 NH))) (b + 1) := by show _ = dgBat τ b _; unfold dgBat; rw [hNP2, show NP = q by omega]
                                refine z_iinc (k := 2) (lv' := [(3, .int (iI ((b : Int) + 1))), (1, .long (lL (fo (fun k d => dgPl τ (16 * b + k) d) (fo (fun b d => dgBat τ b d) (dgSam τ (dgTab τ (fo (fun h d => dgHole τ h d) 173 NH))) b) q))), (4, .int (iI ((q : Int)))), (0, .ref (ad 0))]) hx hb dX8_digest_370 hl rfl (by decide) rfl (fun ls hl => ?_)
                                refine lv_goto (tgt := 306) hx hb dX8_digest_373 (by decide) ?_
                                exact ih306 (b + 1) (fo (fun k d => dgPl τ (16 * b + k) d) (fo (fun b d => dgBat τ b d) (dgSam τ (dgTab τ (fo (fun h d => dgHole τ h d) 173 NH))) b) q) ((b : Int) + 1)  e4 (by omega) (by omega) (by omega)  ls (lv_sub hl [1, 0, 3] rfl)
                              · refine z_iconst hx hb dX8_digest_328 ?_
                                refine lv_istore (lv' := [(5, .int (iI (0))), (1, .long (lL (fo (fun k d => dgPl τ (16 * b + k) d) (fo (fun b d => dgBat τ b d) (dgSam τ (dgTab τ (fo (fun h d => dgHole τ h d) 173 NH))) b) q))), (4, .int (iI ((q : Int)))), (3, .int (iI ((b : Int)))), (0, .ref (ad 0))]) hx hb dX8_digest_329 hl (by decide) rfl (fun ls hl => ?_)
                                have lp331 : ∀ (n331 j : Nat) (x1 x5 : Int), x1 = fo (fun k d => 31 * d + abO τ (16 * b + q) k) (fo (fun k d => dgPl τ (16 * b + k) d) (fo (fun b d => dgBat τ b d) (dgSam τ (dgTab τ (fo (fun h d => dgHole τ h d) 173 NH))) b) q) j → x5 = (j : Int) → j ≤ 5 → 5 + 1 ≤ j + n331 → ∀ ls : Array Slot, lv_has ls 6 [(1, .long (lL (x1))), (5, .int (iI (x5))), (4, .int (iI ((q : Int)))), (3, .int (iI ((b : Int)))), (0, .ref (ad 0))] → W p l e { frames := 1, cells := 0, slots := 0, locals := 22 } s m [.ref (ad 0)].toArray below meth c s.heap [] 0 0 (MQ below (rL (spDig τ)) [.ref (ad 0)].toArray s 0 0 (NoA)) (F0 m 331 ls []) := by
                                  intro n331
                                  induction n331 with
                                  | zero => intro j x1 x5  ex1 ex5 hk1 hk2; exact absurd hk2 (by omega)
                                  | succ n331 ih331 =>
                                    intro j x1 x5  ex1 ex5 hk1 hk2  ls hl
                                    subst ex1
                                    subst ex5
                                    refine lv_iload hx hb dX8_digest_331 (lv_at hl 1 rfl) ?_
                                    refine z_iconst hx hb dX8_digest_333 ?_
                                    refine z_icmp_ge (tgt := 364) hx hb (by omega) (by omega) dX8_digest_334 (by decide) (fun c12 => ?_) (fun c12 => ?_)
                                    · have e5 : fo (fun k d => 31 * d + abO τ (16 * b + q) k) (fo (fun k d => dgPl τ (16 * b + k) d) (fo (fun b d => dgBat τ b d) (dgSam τ (dgTab τ (fo (fun h d => dgHole τ h d) 173 NH))) b) q) j = fo (fun k d => dgPl τ (16 * b + k) d) (fo (fun b d => dgBat τ b d) (dgSam τ (dgTab τ (fo (fun h d => dgHole τ h d) 173 NH))) b) (q + 1) := by rw [show j = 5 by omega]; rfl
                                      refine z_iinc (k := 2) (lv' := [(4, .int (iI ((q : Int) + 1))), (1, .long (lL (fo (fun k d => 31 * d + abO τ (16 * b + q) k) (fo (fun k d => dgPl τ (16 * b + k) d) (fo (fun b d => dgBat τ b d) (dgSam τ (dgTab τ (fo (fun h d => dgHole τ h d) 173 NH))) b) q) j))), (5, .int (iI ((j : Int)))), (3, .int (iI ((b : Int)))), (0, .ref (ad 0))]) hx hb dX8_digest_364 hl rfl (by decide) rfl (fun ls hl => ?_)
                                      refine lv_goto (tgt := 317) hx hb dX8_digest_367 (by decide) ?_
                                      exact ih317 (q + 1) (fo (fun k d => 31 * d + abO τ (16 * b + q) k) (fo (fun k d => dgPl τ (16 * b + k) d) (fo (fun b d => dgBat τ b d) (dgSam τ (dgTab τ (fo (fun h d => dgHole τ h d) 173 NH))) b) q) j) ((q : Int) + 1)  e5 (by omega) (by omega) (by omega)  ls (lv_sub hl [1, 0, 3, 4] rfl)
                                    · refine z_ldc2 (n := 31) hx hb hown (hts (.constantLong RX8 218 (31)) (by decide +kernel)) (by decide) dX8_digest_337 ?_
                                      refine lv_lload_n hx hb dX8_digest_340 rfl (lv_at hl 0 rfl) ?_
                                      refine z_lmul hx hb dX8_digest_341 ?_
                                      refine lv_aload_n hx hb dX8_digest_342 rfl (lv_at hl 4 rfl) ?_
                                      refine z_bipush hx hb dX8_digest_343 (by decide) ?_
                                      refine lv_iload_n hx hb dX8_digest_345 rfl (lv_at hl 3 rfl) ?_
                                      refine z_imul hx hb dX8_digest_346 ?_
                                      refine lv_iload hx hb dX8_digest_347 (lv_at hl 2 rfl) ?_
                                      refine z_iadd hx hb dX8_digest_349 ?_
                                      refine lv_iload hx hb dX8_digest_350 (lv_at hl 1 rfl) ?_
                                      refine m_call (n := 2) (As := [.int (iI ((16 * (b : Int)) + (q : Int))), .int (iI ((j : Int)))]) (rest := [.long (lL (31 * (fo (fun k d => 31 * d + abO τ (16 * b + q) k) (fo (fun k d => dgPl τ (16 * b + k) d) (fo (fun b d => dgBat τ b d) (dgSam τ (dgTab τ (fo (fun h d => dgHole τ h d) 173 NH))) b) q) j)))]) hx hb hml hts hown hK hW (c8_aboutOf l D cI cZ ad τ hI ((16 * b) + q) ((16 * (b : Int)) + (q : Int)) (by omega) (j : Int) (by omega) (by omega)) gX8_digest_X8_aboutOf rfl rfl rfl (by decide +kernel) ⟨by decide, by decide⟩ rfl hl.1 rfl (Nat.le_of_ble_eq_true rfl) ⟨Nat.zero_le _, Nat.zero_le _⟩ dX8_digest_352 ?_
                                      refine z_i2l hx hb (by have := ab_r hI (16 * b + q) (j : Int); omega) dX8_digest_355 ?_
                                      refine z_ladd hx hb dX8_digest_356 ?_
                                      refine lv_lstore_n (lv' := [(1, .long (lL ((31 * (fo (fun k d => 31 * d + abO τ (16 * b + q) k) (fo (fun k d => dgPl τ (16 * b + k) d) (fo (fun b d => dgBat τ b d) (dgSam τ (dgTab τ (fo (fun h d => dgHole τ h d) 173 NH))) b) q) j)) + (abO τ ((16 * b) + q) (j : Int))))), (5, .int (iI ((j : Int)))), (4, .int (iI ((q : Int)))), (3, .int (iI ((b : Int)))), (0, .ref (ad 0))]) hx hb dX8_digest_357 rfl hl (by decide) rfl (fun ls hl => ?_)
                                      refine z_iinc (k := 1) (lv' := [(5, .int (iI ((j : Int) + 1))), (1, .long (lL ((31 * (fo (fun k d => 31 * d + abO τ (16 * b + q) k) (fo (fun k d => dgPl τ (16 * b + k) d) (fo (fun b d => dgBat τ b d) (dgSam τ (dgTab τ (fo (fun h d => dgHole τ h d) 173 NH))) b) q) j)) + (abO τ ((16 * b) + q) (j : Int))))), (4, .int (iI ((q : Int)))), (3, .int (iI ((b : Int)))), (0, .ref (ad 0))]) hx hb dX8_digest_358 hl rfl (by decide) rfl (fun ls hl => ?_)
                                      refine lv_goto (tgt := 331) hx hb dX8_digest_361 (by decide) ?_
                                      exact ih331 (j + 1) ((31 * (fo (fun k d => 31 * d + abO τ (16 * b + q) k) (fo (fun k d => dgPl τ (16 * b + k) d) (fo (fun b d => dgBat τ b d) (dgSam τ (dgTab τ (fo (fun h d => dgHole τ h d) 173 NH))) b) q) j)) + (abO τ ((16 * b) + q) (j : Int))) ((j : Int) + 1)  rfl (by omega) (by omega) (by omega)  ls (lv_sub hl [1, 0, 2, 3, 4] rfl)
                                exact lp331 (5 + 1) 0 (fo (fun k d => dgPl τ (16 * b + k) d) (fo (fun b d => dgBat τ b d) (dgSam τ (dgTab τ (fo (fun h d => dgHole τ h d) 173 NH))) b) q) 0  rfl (by omega) (by omega) (by omega)  ls (lv_sub hl [1, 0, 2, 3, 4] rfl)
                          exact lp317 (NP + 1) 0 (fo (fun b d => dgBat τ b d) (dgSam τ (dgTab τ (fo (fun h d => dgHole τ h d) 173 NH))) b) 0  rfl (by omega) (by omega) (by omega)  ls (lv_sub hl [1, 0, 2, 3] rfl)
                    exact lp306 (NB + 1) 0 (fo (fun k d => 31 * (31 * (31 * (31 * d + τ 13 k) + τ 14 k) + τ 15 k) + τ 16 k) (dgTab τ (fo (fun h d => dgHole τ h d) 173 NH)) i) 0  (by unfold dgSam; rw [hNS2, show NS = i by omega]; rfl) (by omega) (by omega) (by omega)  ls (lv_sub hl [1, 0, 2] rfl)
                  · refine z_ldc2 (n := 31) hx hb hown (hts (.constantLong RX8 218 (31)) (by decide +kernel)) (by decide) dX8_digest_242 ?_
                    refine lv_lload_n hx hb dX8_digest_245 rfl (lv_at hl 0 rfl) ?_
                    refine z_lmul hx hb dX8_digest_246 ?_
                    refine lv_aload_n hx hb dX8_digest_247 rfl (lv_at hl 2 rfl) ?_
                    refine m_get hx hb hts hin8 hown hK hW 13 (by decide) (hts _ (by decide +kernel)) (v := .ref (ad 13)) rfl dX8_digest_248 ?_
                    refine lv_iload_n hx hb dX8_digest_251 rfl (lv_at hl 1 rfl) ?_
                    refine m_ald (d := 13) (j := i) hx hb hK hW rfl (by omega) (show i < 30 from by omega) dX8_digest_252 ?_
                    have r13 : (0 : Int) ≤ τ 13 i ∧ τ 13 i ≤ 3 := hI 13 i
                    refine z_i2l hx hb (by omega) dX8_digest_253 ?_
                    refine z_ladd hx hb dX8_digest_254 ?_
                    refine lv_lstore_n (lv' := [(1, .long (lL ((31 * (fo (fun k d => 31 * (31 * (31 * (31 * d + τ 13 k) + τ 14 k) + τ 15 k) + τ 16 k) (dgTab τ (fo (fun h d => dgHole τ h d) 173 NH)) i)) + (τ 13 i)))), (3, .int (iI ((i : Int)))), (0, .ref (ad 0))]) hx hb dX8_digest_255 rfl hl (by decide) rfl (fun ls hl => ?_)
                    refine z_ldc2 (n := 31) hx hb hown (hts (.constantLong RX8 218 (31)) (by decide +kernel)) (by decide) dX8_digest_256 ?_
                    refine lv_lload_n hx hb dX8_digest_259 rfl (lv_at hl 0 rfl) ?_
                    refine z_lmul hx hb dX8_digest_260 ?_
                    refine lv_aload_n hx hb dX8_digest_261 rfl (lv_at hl 2 rfl) ?_
                    refine m_get hx hb hts hin8 hown hK hW 14 (by decide) (hts _ (by decide +kernel)) (v := .ref (ad 14)) rfl dX8_digest_262 ?_
                    refine lv_iload_n hx hb dX8_digest_265 rfl (lv_at hl 1 rfl) ?_
                    refine m_ald (d := 14) (j := i) hx hb hK hW rfl (by omega) (show i < 30 from by omega) dX8_digest_266 ?_
                    have r14 : (0 : Int) ≤ τ 14 i ∧ τ 14 i ≤ 20000 := hI 14 i
                    refine z_i2l hx hb (by omega) dX8_digest_267 ?_
                    refine z_ladd hx hb dX8_digest_268 ?_
                    refine lv_lstore_n (lv' := [(1, .long (lL ((31 * ((31 * (fo (fun k d => 31 * (31 * (31 * (31 * d + τ 13 k) + τ 14 k) + τ 15 k) + τ 16 k) (dgTab τ (fo (fun h d => dgHole τ h d) 173 NH)) i)) + (τ 13 i))) + (τ 14 i)))), (3, .int (iI ((i : Int)))), (0, .ref (ad 0))]) hx hb dX8_digest_269 rfl hl (by decide) rfl (fun ls hl => ?_)
                    refine z_ldc2 (n := 31) hx hb hown (hts (.constantLong RX8 218 (31)) (by decide +kernel)) (by decide) dX8_digest_270 ?_
                    refine lv_lload_n hx hb dX8_digest_273 rfl (lv_at hl 0 rfl) ?_
                    refine z_lmul hx hb dX8_digest_274 ?_
                    refine lv_aload_n hx hb dX8_digest_275 rfl (lv_at hl 2 rfl) ?_
                    refine m_get hx hb hts hin8 hown hK hW 15 (by decide) (hts _ (by decide +kernel)) (v := .ref (ad 15)) rfl dX8_digest_276 ?_
                    refine lv_iload_n hx hb dX8_digest_279 rfl (lv_at hl 1 rfl) ?_
                    refine m_ald (d := 15) (j := i) hx hb hK hW rfl (by omega) (show i < 30 from by omega) dX8_digest_280 ?_
                    have r15 : (0 : Int) ≤ τ 15 i ∧ τ 15 i ≤ 20000 := hI 15 i
                    refine z_i2l hx hb (by omega) dX8_digest_281 ?_
                    refine z_ladd hx hb dX8_digest_282 ?_
                    refine lv_lstore_n (lv' := [(1, .long (lL ((31 * ((31 * ((31 * (fo (fun k d => 31 * (31 * (31 * (31 * d + τ 13 k) + τ 14 k) + τ 15 k) + τ 16 k) (dgTab τ (fo (fun h d => dgHole τ h d) 173 NH)) i)) + (τ 13 i))) + (τ 14 i))) + (τ 15 i)))), (3, .int (iI ((i : Int)))), (0, .ref (ad 0))]) hx hb dX8_digest_283 rfl hl (by decide) rfl (fun ls hl => ?_)
                    refine z_ldc2 (n := 31) hx hb hown (hts (.constantLong RX8 218 (31)) (by decide +kernel)) (by decide) dX8_digest_284 ?_
                    refine lv_lload_n hx hb dX8_digest_287 rfl (lv_at hl 0 rfl) ?_
                    refine z_lmul hx hb dX8_digest_288 ?_
                    refine lv_aload_n hx hb dX8_digest_289 rfl (lv_at hl 2 rfl) ?_
                    refine m_get hx hb hts hin8 hown hK hW 16 (by decide) (hts _ (by decide +kernel)) (v := .ref (ad 16)) rfl dX8_digest_290 ?_
                    refine lv_iload_n hx hb dX8_digest_293 rfl (lv_at hl 1 rfl) ?_
                    refine m_ald (d := 16) (j := i) hx hb hK hW rfl (by omega) (show i < 30 from by omega) dX8_digest_294 ?_
                    have r16 : (0 : Int) ≤ τ 16 i ∧ τ 16 i ≤ 4 := hI 16 i
                    refine z_i2l hx hb (by omega) dX8_digest_295 ?_
                    refine z_ladd hx hb dX8_digest_296 ?_
                    refine lv_lstore_n (lv' := [(1, .long (lL ((31 * ((31 * ((31 * ((31 * (fo (fun k d => 31 * (31 * (31 * (31 * d + τ 13 k) + τ 14 k) + τ 15 k) + τ 16 k) (dgTab τ (fo (fun h d => dgHole τ h d) 173 NH)) i)) + (τ 13 i))) + (τ 14 i))) + (τ 15 i))) + (τ 16 i)))), (3, .int (iI ((i : Int)))), (0, .ref (ad 0))]) hx hb dX8_digest_297 rfl hl (by decide) rfl (fun ls hl => ?_)
                    refine z_iinc (k := 1) (lv' := [(3, .int (iI ((i : Int) + 1))), (1, .long (lL ((31 * ((31 * ((31 * ((31 * (fo (fun k d => 31 * (31 * (31 * (31 * d + τ 13 k) + τ 14 k) + τ 15 k) + τ 16 k) (dgTab τ (fo (fun h d => dgHole τ h d) 173 NH)) i)) + (τ 13 i))) + (τ 14 i))) + (τ 15 i))) + (τ 16 i)))), (0, .ref (ad 0))]) hx hb dX8_digest_298 hl rfl (by decide) rfl (fun ls hl => ?_)
                    refine lv_goto (tgt := 234) hx hb dX8_digest_301 (by decide) ?_
                    exact ih234 (i + 1) ((31 * ((31 * ((31 * ((31 * (fo (fun k d => 31 * (31 * (31 * (31 * d + τ 13 k) + τ 14 k) + τ 15 k) + τ 16 k) (dgTab τ (fo (fun h d => dgHole τ h d) 173 NH)) i)) + (τ 13 i))) + (τ 14 i))) + (τ 15 i))) + (τ 16 i)) ((i : Int) + 1)  rfl (by omega) (by omega) (by omega)  ls (lv_sub hl [1, 0, 2] rfl)
              exact lp234 (NS + 1) 0 (fo (fun k d => 31 * d + τ 11 k) (fo (fun h d => dgHole τ h d) 173 NH) k) 0  (by unfold dgTab; rw [show k = 10 by omega]; rfl) (by omega) (by omega) (by omega)  ls (lv_sub hl [1, 0, 2] rfl)
            · refine z_ldc2 (n := 31) hx hb hown (hts (.constantLong RX8 218 (31)) (by decide +kernel)) (by decide) dX8_digest_212 ?_
              refine lv_lload_n hx hb dX8_digest_215 rfl (lv_at hl 0 rfl) ?_
              refine z_lmul hx hb dX8_digest_216 ?_
              refine lv_aload_n hx hb dX8_digest_217 rfl (lv_at hl 2 rfl) ?_
              refine m_get hx hb hts hin8 hown hK hW 11 (by decide) (hts _ (by decide +kernel)) (v := .ref (ad 11)) rfl dX8_digest_218 ?_
              refine lv_iload_n hx hb dX8_digest_221 rfl (lv_at hl 1 rfl) ?_
              refine m_ald (d := 11) (j := k) hx hb hK hW rfl (by omega) (show k < 10 from by omega) dX8_digest_222 ?_
              have r17 : (0 : Int) ≤ τ 11 k ∧ τ 11 k ≤ 9 := hI 11 k
              refine z_i2l hx hb (by omega) dX8_digest_223 ?_
              refine z_ladd hx hb dX8_digest_224 ?_
              refine lv_lstore_n (lv' := [(1, .long (lL ((31 * (fo (fun k d => 31 * d + τ 11 k) (fo (fun h d => dgHole τ h d) 173 NH) k)) + (τ 11 k)))), (3, .int (iI ((k : Int)))), (0, .ref (ad 0))]) hx hb dX8_digest_225 rfl hl (by decide) rfl (fun ls hl => ?_)
              refine z_iinc (k := 1) (lv' := [(3, .int (iI ((k : Int) + 1))), (1, .long (lL ((31 * (fo (fun k d => 31 * d + τ 11 k) (fo (fun h d => dgHole τ h d) 173 NH) k)) + (τ 11 k)))), (0, .ref (ad 0))]) hx hb dX8_digest_226 hl rfl (by decide) rfl (fun ls hl => ?_)
              refine lv_goto (tgt := 206) hx hb dX8_digest_229 (by decide) ?_
              exact ih206 (k + 1) ((31 * (fo (fun k d => 31 * d + τ 11 k) (fo (fun h d => dgHole τ h d) 173 NH) k)) + (τ 11 k)) ((k : Int) + 1)  rfl (by omega) (by omega) (by omega)  ls (lv_sub hl [1, 0, 2] rfl)
        exact lp206 (10 + 1) 0 (fo (fun h d => dgHole τ h d) 173 h) 0  (by rw [show NH = h by omega]; rfl) (by omega) (by omega) (by omega)  ls (lv_sub hl [1, 0, 2] rfl)
      · refine z_iconst hx hb dX8_digest_14 ?_
        refine lv_istore (lv' := [(4, .int (iI (0))), (1, .long (lL (fo (fun h d => dgHole τ h d) 173 h))), (3, .int (iI ((h : Int)))), (0, .ref (ad 0))]) hx hb dX8_digest_15 hl (by decide) rfl (fun ls hl => ?_)
        have lp17 : ∀ (n17 k : Nat) (x1 x4 : Int), x1 = fo (fun k d => 31 * (31 * d + τ 2 (20 * h + k)) + τ 3 (20 * h + k)) (fo (fun h d => dgHole τ h d) 173 h) k → x4 = (k : Int) → k ≤ NR → NR + 1 ≤ k + n17 → ∀ ls : Array Slot, lv_has ls 6 [(1, .long (lL (x1))), (4, .int (iI (x4))), (3, .int (iI ((h : Int)))), (0, .ref (ad 0))] → W p l e { frames := 1, cells := 0, slots := 0, locals := 22 } s m [.ref (ad 0)].toArray below meth c s.heap [] 0 0 (MQ below (rL (spDig τ)) [.ref (ad 0)].toArray s 0 0 (NoA)) (F0 m 17 ls []) := by
          intro n17
          induction n17 with
          | zero => intro k x1 x4  ex1 ex4 hk1 hk2; exact absurd hk2 (by omega)
          | succ n17 ih17 =>
            intro k x1 x4  ex1 ex4 hk1 hk2  ls hl
            subst ex1
            subst ex4
            refine lv_iload hx hb dX8_digest_17 (lv_at hl 1 rfl) ?_
            refine lv_aload_n hx hb dX8_digest_19 rfl (lv_at hl 3 rfl) ?_
            refine m_get hx hb hts hin8 hown hK hW 1 (by decide) (hts _ (by decide +kernel)) (v := .ref (ad 1)) rfl dX8_digest_20 ?_
            refine lv_iload_n hx hb dX8_digest_23 rfl (lv_at hl 2 rfl) ?_
            refine m_ald (d := 1) (j := h) hx hb hK hW rfl (by omega) (show h < 4 from by omega) dX8_digest_24 ?_
            have r18 : (0 : Int) ≤ τ 1 h ∧ τ 1 h ≤ 20 := hI 1 h
            refine z_icmp_ge (tgt := 74) hx hb (by omega) (by omega) dX8_digest_25 (by decide) (fun c19 => ?_) (fun c19 => ?_)
            · have e1 : fo (fun k d => 31 * (31 * d + τ 2 (20 * h + k)) + τ 3 (20 * h + k)) (fo (fun h d => dgHole τ h d) 173 h) k = dgRun τ h (fo (fun h d => dgHole τ h d) 173 h) := by unfold dgRun; rw [hNR2, show NR = k by omega]
              refine z_iconst hx hb dX8_digest_74 ?_
              refine lv_istore (lv' := [(4, .int (iI (0))), (1, .long (lL (fo (fun k d => 31 * (31 * d + τ 2 (20 * h + k)) + τ 3 (20 * h + k)) (fo (fun h d => dgHole τ h d) 173 h) k))), (3, .int (iI ((h : Int)))), (0, .ref (ad 0))]) hx hb dX8_digest_75 hl (by decide) rfl (fun ls hl => ?_)
              have lp77 : ∀ (n77 j : Nat) (x1 x4 : Int), x1 = fo (fun k d => 31 * d + τ 5 (20 * h + k)) (dgRun τ h (fo (fun h d => dgHole τ h d) 173 h)) j → x4 = (j : Int) → j ≤ NM → NM + 1 ≤ j + n77 → ∀ ls : Array Slot, lv_has ls 6 [(1, .long (lL (x1))), (4, .int (iI (x4))), (3, .int (iI ((h : Int)))), (0, .ref (ad 0))] → W p l e { frames := 1, cells := 0, slots := 0, locals := 22 } s m [.ref (ad 0)].toArray below meth c s.heap [] 0 0 (MQ below (rL (spDig τ)) [.ref (ad 0)].toArray s 0 0 (NoA)) (F0 m 77 ls []) := by
                intro n77
                induction n77 with
                | zero => intro j x1 x4  ex1 ex4 hk1 hk2; exact absurd hk2 (by omega)
                | succ n77 ih77 =>
                  intro j x1 x4  ex1 ex4 hk1 hk2  ls hl
                  subst ex1
                  subst ex4
                  refine lv_iload hx hb dX8_digest_77 (lv_at hl 1 rfl) ?_
                  refine lv_aload_n hx hb dX8_digest_79 rfl (lv_at hl 3 rfl) ?_
                  refine m_get hx hb hts hin8 hown hK hW 4 (by decide) (hts _ (by decide +kernel)) (v := .ref (ad 4)) rfl dX8_digest_80 ?_
                  refine lv_iload_n hx hb dX8_digest_83 rfl (lv_at hl 2 rfl) ?_
                  refine m_ald (d := 4) (j := h) hx hb hK hW rfl (by omega) (show h < 4 from by omega) dX8_digest_84 ?_
                  have r20 : (0 : Int) ≤ τ 4 h ∧ τ 4 h ≤ 20 := hI 4 h
                  refine z_icmp_ge (tgt := 114) hx hb (by omega) (by omega) dX8_digest_85 (by decide) (fun c21 => ?_) (fun c21 => ?_)
                  · have e2 : fo (fun k d => 31 * d + τ 5 (20 * h + k)) (dgRun τ h (fo (fun h d => dgHole τ h d) 173 h)) j = dgMark τ h (dgRun τ h (fo (fun h d => dgHole τ h d) 173 h)) := by unfold dgMark; rw [hNM2, show NM = j by omega]
                    refine z_iconst hx hb dX8_digest_114 ?_
                    refine lv_iload_n hx hb dX8_digest_115 rfl (lv_at hl 2 rfl) ?_
                    refine z_imul hx hb dX8_digest_116 ?_
                    refine lv_istore (lv' := [(4, .int (iI (2 * (h : Int)))), (1, .long (lL (fo (fun k d => 31 * d + τ 5 (20 * h + k)) (dgRun τ h (fo (fun h d => dgHole τ h d) 173 h)) j))), (3, .int (iI ((h : Int)))), (0, .ref (ad 0))]) hx hb dX8_digest_117 hl (by decide) rfl (fun ls hl => ?_)
                    have lp119 : ∀ (n119 i : Nat) (x1 x4 : Int), x1 = fo (fun j d => dgLog τ (2 * h + j) d) (dgMark τ h (dgRun τ h (fo (fun h d => dgHole τ h d) 173 h))) i → x4 = 2 * (h : Int) + (i : Int) → i ≤ 2 → 2 + 1 ≤ i + n119 → ∀ ls : Array Slot, lv_has ls 6 [(1, .long (lL (x1))), (4, .int (iI (x4))), (3, .int (iI ((h : Int)))), (0, .ref (ad 0))] → W p l e { frames := 1, cells := 0, slots := 0, locals := 22 } s m [.ref (ad 0)].toArray below meth c s.heap [] 0 0 (MQ below (rL (spDig τ)) [.ref (ad 0)].toArray s 0 0 (NoA)) (F0 m 119 ls []) := by
                      intro n119
                      induction n119 with
                      | zero => intro i x1 x4  ex1 ex4 hk1 hk2; exact absurd hk2 (by omega)
                      | succ n119 ih119 =>
                        intro i x1 x4  ex1 ex4 hk1 hk2  ls hl
                        subst ex1
                        subst ex4
                        refine lv_iload hx hb dX8_digest_119 (lv_at hl 1 rfl) ?_
                        refine z_iconst hx hb dX8_digest_121 ?_
                        refine lv_iload_n hx hb dX8_digest_122 rfl (lv_at hl 2 rfl) ?_
                        refine z_imul hx hb dX8_digest_123 ?_
                        refine z_iconst hx hb dX8_digest_124 ?_
                        refine z_iadd hx hb dX8_digest_125 ?_
                        refine z_icmp_ge (tgt := 198) hx hb (by omega) (by omega) dX8_digest_126 (by decide) (fun c22 => ?_) (fun c22 => ?_)
                        · refine z_iinc (k := 2) (lv' := [(3, .int (iI ((h : Int) + 1))), (1, .long (lL (fo (fun j d => dgLog τ (2 * h + j) d) (dgMark τ h (dgRun τ h (fo (fun h d => dgHole τ h d) 173 h))) i))), (4, .int (iI (2 * (h : Int) + (i : Int)))), (0, .ref (ad 0))]) hx hb dX8_digest_198 hl rfl (by decide) rfl (fun ls hl => ?_)
                          refine lv_goto (tgt := 6) hx hb dX8_digest_201 (by decide) ?_
                          exact ih6 (h + 1) (fo (fun j d => dgLog τ (2 * h + j) d) (dgMark τ h (dgRun τ h (fo (fun h d => dgHole τ h d) 173 h))) i) ((h : Int) + 1)  (by rw [show i = 2 by omega]; rfl) (by omega) (by omega) (by omega)  ls (lv_sub hl [1, 0, 3] rfl)
                        · obtain ⟨NL, hNL⟩ : ∃ N : Nat, τ 8 (2 * h + i) = N := ⟨(τ 8 (2 * h + i)).toNat, by have : (0 : Int) ≤ τ 8 (2 * h + i) ∧ τ 8 (2 * h + i) ≤ 20 := hI 8 (2 * h + i); omega⟩
                          have hNL2 : (τ 8 (2 * h + i)).toNat = NL := by omega
                          have hNL3 : NL ≤ 20 := by have : (0 : Int) ≤ τ 8 (2 * h + i) ∧ τ 8 (2 * h + i) ≤ 20 := hI 8 (2 * h + i); omega
                          refine z_iconst hx hb dX8_digest_129 ?_
                          refine lv_istore (lv' := [(5, .int (iI (0))), (1, .long (lL (fo (fun j d => dgLog τ (2 * h + j) d) (dgMark τ h (dgRun τ h (fo (fun h d => dgHole τ h d) 173 h))) i))), (4, .int (iI (2 * (h : Int) + (i : Int)))), (3, .int (iI ((h : Int)))), (0, .ref (ad 0))]) hx hb dX8_digest_130 hl (by decide) rfl (fun ls hl => ?_)
                          have lp132 : ∀ (n132 n : Nat) (x1 x5 : Int), x1 = fo (fun k d => 31 * (31 * d + τ 9 (20 * (2 * h + i) + k)) + τ 10 (20 * (2 * h + i) + k)) (fo (fun j d => dgLog τ (2 * h + j) d) (dgMark τ h (dgRun τ h (fo (fun h d => dgHole τ h d) 173 h))) i) n → x5 = (n : Int) → n ≤ NL → NL + 1 ≤ n + n132 → ∀ ls : Array Slot, lv_has ls 6 [(1, .long (lL (x1))), (5, .int (iI (x5))), (4, .int (iI (2 * (h : Int) + (i : Int)))), (3, .int (iI ((h : Int)))), (0, .ref (ad 0))] → W p l e { frames := 1, cells := 0, slots := 0, locals := 22 } s m [.ref (ad 0)].toArray below meth c s.heap [] 0 0 (MQ below (rL (spDig τ)) [.ref (ad 0)].toArray s 0 0 (NoA)) (F0 m 132 ls []) := by
                            intro n132
                            induction n132 with
                            | zero => intro n x1 x5  ex1 ex5 hk1 hk2; exact absurd hk2 (by omega)
                            | succ n132 ih132 =>
                              intro n x1 x5  ex1 ex5 hk1 hk2  ls hl
                              subst ex1
                              subst ex5
                              refine lv_iload hx hb dX8_digest_132 (lv_at hl 1 rfl) ?_
                              refine lv_aload_n hx hb dX8_digest_134 rfl (lv_at hl 4 rfl) ?_
                              refine m_get hx hb hts hin8 hown hK hW 8 (by decide) (hts _ (by decide +kernel)) (v := .ref (ad 8)) rfl dX8_digest_135 ?_
                              refine lv_iload hx hb dX8_digest_138 (lv_at hl 2 rfl) ?_
                              refine m_ald (d := 8) (j := 2 * h + i) hx hb hK hW rfl (by omega) (show 2 * h + i < 8 from by omega) dX8_digest_140 ?_
                              have r23 : (0 : Int) ≤ τ 8 (2 * h + i) ∧ τ 8 (2 * h + i) ≤ 20 := hI 8 (2 * h + i)
                              refine z_icmp_ge (tgt := 192) hx hb (by omega) (by omega) dX8_digest_141 (by decide) (fun c24 => ?_) (fun c24 => ?_)
                              · have e3 : fo (fun k d => 31 * (31 * d + τ 9 (20 * (2 * h + i) + k)) + τ 10 (20 * (2 * h + i) + k)) (fo (fun j d => dgLog τ (2 * h + j) d) (dgMark τ h (dgRun τ h (fo (fun h d => dgHole τ h d) 173 h))) i) n = fo (fun j d => dgLog τ (2 * h + j) d) (dgMark τ h (dgRun τ h (fo (fun h d => dgHole τ h d) 173 h))) (i + 1) := by show _ = dgLog τ (2 * h + i) _; unfold dgLog; rw [hNL2, show NL = n by omega]
                                refine z_iinc (k := 2) (lv' := [(4, .int (iI ((2 * (h : Int) + (i : Int)) + 1))), (1, .long (lL (fo (fun k d => 31 * (31 * d + τ 9 (20 * (2 * h + i) + k)) + τ 10 (20 * (2 * h + i) + k)) (fo (fun j d => dgLog τ (2 * h + j) d) (dgMark τ h (dgRun τ h (fo (fun h d => dgHole τ h d) 173 h))) i) n))), (5, .int (iI ((n : Int)))), (3, .int (iI ((h : Int)))), (0, .ref (ad 0))]) hx hb dX8_digest_192 hl rfl (by decide) rfl (fun ls hl => ?_)
                                refine lv_goto (tgt := 119) hx hb dX8_digest_195 (by decide) ?_
                                exact ih119 (i + 1) (fo (fun k d => 31 * (31 * d + τ 9 (20 * (2 * h + i) + k)) + τ 10 (20 * (2 * h + i) + k)) (fo (fun j d => dgLog τ (2 * h + j) d) (dgMark τ h (dgRun τ h (fo (fun h d => dgHole τ h d) 173 h))) i) n) ((2 * (h : Int) + (i : Int)) + 1)  e3 (by omega) (by omega) (by omega)  ls (lv_sub hl [1, 0, 3, 4] rfl)
                              · refine z_ldc2 (n := 31) hx hb hown (hts (.constantLong RX8 218 (31)) (by decide +kernel)) (by decide) dX8_digest_144 ?_
                                refine lv_lload_n hx hb dX8_digest_147 rfl (lv_at hl 0 rfl) ?_
                                refine z_lmul hx hb dX8_digest_148 ?_
                                refine lv_aload_n hx hb dX8_digest_149 rfl (lv_at hl 4 rfl) ?_
                                refine m_get hx hb hts hin8 hown hK hW 9 (by decide) (hts _ (by decide +kernel)) (v := .ref (ad 9)) rfl dX8_digest_150 ?_
                                refine z_bipush hx hb dX8_digest_153 (by decide) ?_
                                refine lv_iload hx hb dX8_digest_155 (lv_at hl 2 rfl) ?_
                                refine z_imul hx hb dX8_digest_157 ?_
                                refine lv_iload hx hb dX8_digest_158 (lv_at hl 1 rfl) ?_
                                refine z_iadd hx hb dX8_digest_160 ?_
                                refine m_ald (d := 9) (j := (20 * (2 * h + i)) + n) hx hb hK hW rfl (by omega) (show (20 * (2 * h + i)) + n < 160 from by omega) dX8_digest_161 ?_
                                have r25 : (0 : Int) ≤ τ 9 ((20 * (2 * h + i)) + n) ∧ τ 9 ((20 * (2 * h + i)) + n) ≤ 20000 := hI 9 ((20 * (2 * h + i)) + n)
                                refine z_i2l hx hb (by omega) dX8_digest_162 ?_
                                refine z_ladd hx hb dX8_digest_163 ?_
                                refine lv_lstore_n (lv' := [(1, .long (lL ((31 * (fo (fun k d => 31 * (31 * d + τ 9 (20 * (2 * h + i) + k)) + τ 10 (20 * (2 * h + i) + k)) (fo (fun j d => dgLog τ (2 * h + j) d) (dgMark τ h (dgRun τ h (fo (fun h d => dgHole τ h d) 173 h))) i) n)) + (τ 9 ((20 * (2 * h + i)) + n))))), (5, .int (iI ((n : Int)))), (4, .int (iI (2 * (h : Int) + (i : Int)))), (3, .int (iI ((h : Int)))), (0, .ref (ad 0))]) hx hb dX8_digest_164 rfl hl (by decide) rfl (fun ls hl => ?_)
                                refine z_ldc2 (n := 31) hx hb hown (hts (.constantLong RX8 218 (31)) (by decide +kernel)) (by decide) dX8_digest_165 ?_
                                refine lv_lload_n hx hb dX8_digest_168 rfl (lv_at hl 0 rfl) ?_
                                refine z_lmul hx hb dX8_digest_169 ?_
                                refine lv_aload_n hx hb dX8_digest_170 rfl (lv_at hl 4 rfl) ?_
                                refine m_get hx hb hts hin8 hown hK hW 10 (by decide) (hts _ (by decide +kernel)) (v := .ref (ad 10)) rfl dX8_digest_171 ?_
                                refine z_bipush hx hb dX8_digest_174 (by decide) ?_
                                refine lv_iload hx hb dX8_digest_176 (lv_at hl 2 rfl) ?_
                                refine z_imul hx hb dX8_digest_178 ?_
                                refine lv_iload hx hb dX8_digest_179 (lv_at hl 1 rfl) ?_
                                refine z_iadd hx hb dX8_digest_181 ?_
                                refine m_ald (d := 10) (j := (20 * (2 * h + i)) + n) hx hb hK hW rfl (by omega) (show (20 * (2 * h + i)) + n < 160 from by omega) dX8_digest_182 ?_
                                have r26 : (0 : Int) ≤ τ 10 ((20 * (2 * h + i)) + n) ∧ τ 10 ((20 * (2 * h + i)) + n) ≤ 9 := hI 10 ((20 * (2 * h + i)) + n)
                                refine z_i2l hx hb (by omega) dX8_digest_183 ?_
                                refine z_ladd hx hb dX8_digest_184 ?_
                                refine lv_lstore_n (lv' := [(1, .long (lL ((31 * ((31 * (fo (fun k d => 31 * (31 * d + τ 9 (20 * (2 * h + i) + k)) + τ 10 (20 * (2 * h + i) + k)) (fo (fun j d => dgLog τ (2 * h + j) d) (dgMark τ h (dgRun τ h (fo (fun h d => dgHole τ h d) 173 h))) i) n)) + (τ 9 ((20 * (2 * h + i)) + n)))) + (τ 10 ((20 * (2 * h + i)) + n))))), (5, .int (iI ((n : Int)))), (4, .int (iI (2 * (h : Int) + (i : Int)))), (3, .int (iI ((h : Int)))), (0, .ref (ad 0))]) hx hb dX8_digest_185 rfl hl (by decide) rfl (fun ls hl => ?_)
                                refine z_iinc (k := 1) (lv' := [(5, .int (iI ((n : Int) + 1))), (1, .long (lL ((31 * ((31 * (fo (fun k d => 31 * (31 * d + τ 9 (20 * (2 * h + i) + k)) + τ 10 (20 * (2 * h + i) + k)) (fo (fun j d => dgLog τ (2 * h + j) d) (dgMark τ h (dgRun τ h (fo (fun h d => dgHole τ h d) 173 h))) i) n)) + (τ 9 ((20 * (2 * h + i)) + n)))) + (τ 10 ((20 * (2 * h + i)) + n))))), (4, .int (iI (2 * (h : Int) + (i : Int)))), (3, .int (iI ((h : Int)))), (0, .ref (ad 0))]) hx hb dX8_digest_186 hl rfl (by decide) rfl (fun ls hl => ?_)
                                refine lv_goto (tgt := 132) hx hb dX8_digest_189 (by decide) ?_
                                exact ih132 (n + 1) ((31 * ((31 * (fo (fun k d => 31 * (31 * d + τ 9 (20 * (2 * h + i) + k)) + τ 10 (20 * (2 * h + i) + k)) (fo (fun j d => dgLog τ (2 * h + j) d) (dgMark τ h (dgRun τ h (fo (fun h d => dgHole τ h d) 173 h))) i) n)) + (τ 9 ((20 * (2 * h + i)) + n)))) + (τ 10 ((20 * (2 * h + i)) + n))) ((n : Int) + 1)  rfl (by omega) (by omega) (by omega)  ls (lv_sub hl [1, 0, 2, 3, 4] rfl)
                          exact lp132 (NL + 1) 0 (fo (fun j d => dgLog τ (2 * h + j) d) (dgMark τ h (dgRun τ h (fo (fun h d => dgHole τ h d) 173 h))) i) 0  rfl (by omega) (by omega) (by omega)  ls (lv_sub hl [1, 0, 2, 3, 4] rfl)
                    exact lp119 (2 + 1) 0 (fo (fun k d => 31 * d + τ 5 (20 * h + k)) (dgRun τ h (fo (fun h d => dgHole τ h d) 173 h)) j) (2 * (h : Int))  e2 (by omega) (by omega) (by omega)  ls (lv_sub hl [1, 0, 2, 3] rfl)
                  · refine z_ldc2 (n := 31) hx hb hown (hts (.constantLong RX8 218 (31)) (by decide +kernel)) (by decide) dX8_digest_88 ?_
                    refine lv_lload_n hx hb dX8_digest_91 rfl (lv_at hl 0 rfl) ?_
                    refine z_lmul hx hb dX8_digest_92 ?_
                    refine lv_aload_n hx hb dX8_digest_93 rfl (lv_at hl 3 rfl) ?_
                    refine m_get hx hb hts hin8 hown hK hW 5 (by decide) (hts _ (by decide +kernel)) (v := .ref (ad 5)) rfl dX8_digest_94 ?_
                    refine z_bipush hx hb dX8_digest_97 (by decide) ?_
                    refine lv_iload_n hx hb dX8_digest_99 rfl (lv_at hl 2 rfl) ?_
                    refine z_imul hx hb dX8_digest_100 ?_
                    refine lv_iload hx hb dX8_digest_101 (lv_at hl 1 rfl) ?_
                    refine z_iadd hx hb dX8_digest_103 ?_
                    refine m_ald (d := 5) (j := (20 * h) + j) hx hb hK hW rfl (by omega) (show (20 * h) + j < 80 from by omega) dX8_digest_104 ?_
                    have r27 : (0 : Int) ≤ τ 5 ((20 * h) + j) ∧ τ 5 ((20 * h) + j) ≤ 100000 := hI 5 ((20 * h) + j)
                    refine z_i2l hx hb (by omega) dX8_digest_105 ?_
                    refine z_ladd hx hb dX8_digest_106 ?_
                    refine lv_lstore_n (lv' := [(1, .long (lL ((31 * (fo (fun k d => 31 * d + τ 5 (20 * h + k)) (dgRun τ h (fo (fun h d => dgHole τ h d) 173 h)) j)) + (τ 5 ((20 * h) + j))))), (4, .int (iI ((j : Int)))), (3, .int (iI ((h : Int)))), (0, .ref (ad 0))]) hx hb dX8_digest_107 rfl hl (by decide) rfl (fun ls hl => ?_)
                    refine z_iinc (k := 1) (lv' := [(4, .int (iI ((j : Int) + 1))), (1, .long (lL ((31 * (fo (fun k d => 31 * d + τ 5 (20 * h + k)) (dgRun τ h (fo (fun h d => dgHole τ h d) 173 h)) j)) + (τ 5 ((20 * h) + j))))), (3, .int (iI ((h : Int)))), (0, .ref (ad 0))]) hx hb dX8_digest_108 hl rfl (by decide) rfl (fun ls hl => ?_)
                    refine lv_goto (tgt := 77) hx hb dX8_digest_111 (by decide) ?_
                    exact ih77 (j + 1) ((31 * (fo (fun k d => 31 * d + τ 5 (20 * h + k)) (dgRun τ h (fo (fun h d => dgHole τ h d) 173 h)) j)) + (τ 5 ((20 * h) + j))) ((j : Int) + 1)  rfl (by omega) (by omega) (by omega)  ls (lv_sub hl [1, 0, 2, 3] rfl)
              exact lp77 (NM + 1) 0 (fo (fun k d => 31 * (31 * d + τ 2 (20 * h + k)) + τ 3 (20 * h + k)) (fo (fun h d => dgHole τ h d) 173 h) k) 0  e1 (by omega) (by omega) (by omega)  ls (lv_sub hl [1, 0, 2, 3] rfl)
            · refine z_ldc2 (n := 31) hx hb hown (hts (.constantLong RX8 218 (31)) (by decide +kernel)) (by decide) dX8_digest_28 ?_
              refine lv_lload_n hx hb dX8_digest_31 rfl (lv_at hl 0 rfl) ?_
              refine z_lmul hx hb dX8_digest_32 ?_
              refine lv_aload_n hx hb dX8_digest_33 rfl (lv_at hl 3 rfl) ?_
              refine m_get hx hb hts hin8 hown hK hW 2 (by decide) (hts _ (by decide +kernel)) (v := .ref (ad 2)) rfl dX8_digest_34 ?_
              refine z_bipush hx hb dX8_digest_37 (by decide) ?_
              refine lv_iload_n hx hb dX8_digest_39 rfl (lv_at hl 2 rfl) ?_
              refine z_imul hx hb dX8_digest_40 ?_
              refine lv_iload hx hb dX8_digest_41 (lv_at hl 1 rfl) ?_
              refine z_iadd hx hb dX8_digest_43 ?_
              refine m_ald (d := 2) (j := (20 * h) + k) hx hb hK hW rfl (by omega) (show (20 * h) + k < 80 from by omega) dX8_digest_44 ?_
              have r28 : (0 : Int) ≤ τ 2 ((20 * h) + k) ∧ τ 2 ((20 * h) + k) ≤ 1000 := hI 2 ((20 * h) + k)
              refine z_i2l hx hb (by omega) dX8_digest_45 ?_
              refine z_ladd hx hb dX8_digest_46 ?_
              refine lv_lstore_n (lv' := [(1, .long (lL ((31 * (fo (fun k d => 31 * (31 * d + τ 2 (20 * h + k)) + τ 3 (20 * h + k)) (fo (fun h d => dgHole τ h d) 173 h) k)) + (τ 2 ((20 * h) + k))))), (4, .int (iI ((k : Int)))), (3, .int (iI ((h : Int)))), (0, .ref (ad 0))]) hx hb dX8_digest_47 rfl hl (by decide) rfl (fun ls hl => ?_)
              refine z_ldc2 (n := 31) hx hb hown (hts (.constantLong RX8 218 (31)) (by decide +kernel)) (by decide) dX8_digest_48 ?_
              refine lv_lload_n hx hb dX8_digest_51 rfl (lv_at hl 0 rfl) ?_
              refine z_lmul hx hb dX8_digest_52 ?_
              refine lv_aload_n hx hb dX8_digest_53 rfl (lv_at hl 3 rfl) ?_
              refine m_get hx hb hts hin8 hown hK hW 3 (by decide) (hts _ (by decide +kernel)) (v := .ref (ad 3)) rfl dX8_digest_54 ?_
              refine z_bipush hx hb dX8_digest_57 (by decide) ?_
              refine lv_iload_n hx hb dX8_digest_59 rfl (lv_at hl 2 rfl) ?_
              refine z_imul hx hb dX8_digest_60 ?_
              refine lv_iload hx hb dX8_digest_61 (lv_at hl 1 rfl) ?_
              refine z_iadd hx hb dX8_digest_63 ?_
              refine m_ald (d := 3) (j := (20 * h) + k) hx hb hK hW rfl (by omega) (show (20 * h) + k < 80 from by omega) dX8_digest_64 ?_
              have r29 : (0 : Int) ≤ τ 3 ((20 * h) + k) ∧ τ 3 ((20 * h) + k) ≤ 1000 := hI 3 ((20 * h) + k)
              refine z_i2l hx hb (by omega) dX8_digest_65 ?_
              refine z_ladd hx hb dX8_digest_66 ?_
              refine lv_lstore_n (lv' := [(1, .long (lL ((31 * ((31 * (fo (fun k d => 31 * (31 * d + τ 2 (20 * h + k)) + τ 3 (20 * h + k)) (fo (fun h d => dgHole τ h d) 173 h) k)) + (τ 2 ((20 * h) + k)))) + (τ 3 ((20 * h) + k))))), (4, .int (iI ((k : Int)))), (3, .int (iI ((h : Int)))), (0, .ref (ad 0))]) hx hb dX8_digest_67 rfl hl (by decide) rfl (fun ls hl => ?_)
              refine z_iinc (k := 1) (lv' := [(4, .int (iI ((k : Int) + 1))), (1, .long (lL ((31 * ((31 * (fo (fun k d => 31 * (31 * d + τ 2 (20 * h + k)) + τ 3 (20 * h + k)) (fo (fun h d => dgHole τ h d) 173 h) k)) + (τ 2 ((20 * h) + k)))) + (τ 3 ((20 * h) + k))))), (3, .int (iI ((h : Int)))), (0, .ref (ad 0))]) hx hb dX8_digest_68 hl rfl (by decide) rfl (fun ls hl => ?_)
              refine lv_goto (tgt := 17) hx hb dX8_digest_71 (by decide) ?_
              exact ih17 (k + 1) ((31 * ((31 * (fo (fun k d => 31 * (31 * d + τ 2 (20 * h + k)) + τ 3 (20 * h + k)) (fo (fun h d => dgHole τ h d) 173 h) k)) + (τ 2 ((20 * h) + k)))) + (τ 3 ((20 * h) + k))) ((k : Int) + 1)  rfl (by omega) (by omega) (by omega)  ls (lv_sub hl [1, 0, 2, 3] rfl)
        exact lp17 (NR + 1) 0 (fo (fun h d => dgHole τ h d) 173 h) 0  rfl (by omega) (by omega) (by omega)  ls (lv_sub hl [1, 0, 2, 3] rfl)
  exact lp6 (NH + 1) 0 173 0  rfl (by omega) (by omega) (by omega)  ls (lv_sub hl [1, 0, 2] rfl)
