/-! layers matched -/
def cs0 (t2 : Nat → Int) (m : Nat) : Nat → Int
  | 0 => 0
  | j + 1 => t2 (m - (j + 1)) + cs0 t2 m j
def csN (t2 : Nat → Int) (m : Nat) (pv : Nat → Int) (a : Int) (al : Nat → Bool) : Nat → Int
  | 0 => a + pv 0
  | j + 1 => if al (m - (j + 1)) = true then min (min (a + pv (j + 1)) (t2 (m - (j + 1)) + csN t2 m pv a al j)) (farI a (t2 (m - (j + 1))) + pv j) else min (a + pv (j + 1)) (t2 (m - (j + 1)) + csN t2 m pv a al j)
def csD (t1 t2 : Nat → Int) (al : Nat → Nat → Bool) (n m : Nat) : Nat → Nat → Int
  | 0 => cs0 t2 m
  | i + 1 => csN t2 m (csD t1 t2 al n m i) (t1 (n - (i + 1))) (al (n - (i + 1)))
theorem cs_0c {t1 t2 : Nat → Int} {al : Nat → Nat → Bool} {n m : Nat} : ∀ {q : Nat}, 0 < q → csD t1 t2 al n m 0 q = t2 (m - q) + csD t1 t2 al n m 0 (q - 1)
  | 0, h => absurd h (Nat.lt_irrefl 0)
  | q + 1, _ => rfl
theorem cs_r0 {t1 t2 : Nat → Int} {al : Nat → Nat → Bool} {n m : Nat} : ∀ {r : Nat}, 0 < r → csD t1 t2 al n m r 0 = t1 (n - r) + csD t1 t2 al n m (r - 1) 0
  | 0, h => absurd h (Nat.lt_irrefl 0)
  | r + 1, _ => rfl
theorem cs_rc {t1 t2 : Nat → Int} {al : Nat → Nat → Bool} {n m : Nat} : ∀ {r q : Nat}, 0 < r → 0 < q → csD t1 t2 al n m r q = if al (n - r) (m - q) = true then min (min (t1 (n - r) + csD t1 t2 al n m (r - 1) q) (t2 (m - q) + csD t1 t2 al n m r (q - 1))) (farI (t1 (n - r)) (t2 (m - q)) + csD t1 t2 al n m (r - 1) (q - 1)) else min (t1 (n - r) + csD t1 t2 al n m (r - 1) q) (t2 (m - q) + csD t1 t2 al n m r (q - 1))
  | 0, _, h, _ => absurd h (Nat.lt_irrefl 0)
  | r + 1, 0, _, h => absurd h (Nat.lt_irrefl 0)
  | r + 1, q + 1, _, _ => rfl
theorem far_0 (a b : Int) : 0 ≤ farI a b := by unfold farI; split <;> omega
theorem cs_r {t1 t2 : Nat → Int} {al : Nat → Nat → Bool} {n m : Nat} (h1 : ∀ k, -20000 ≤ t1 k ∧ t1 k ≤ 20000) (h2 : ∀ k, -20000 ≤ t2 k ∧ t2 k ≤ 20000) : ∀ r q : Nat, -20000 * ((r : Int) + q) ≤ csD t1 t2 al n m r q ∧ csD t1 t2 al n m r q ≤ 20000 * ((r : Int) + q) := by
  intro r
  induction r with
  | zero =>
    intro q
    induction q with
    | zero => show _ ≤ (0 : Int) ∧ (0 : Int) ≤ _; omega
    | succ q ih =>
      rw [show csD t1 t2 al n m 0 (q + 1) = t2 (m - (q + 1)) + csD t1 t2 al n m 0 q from rfl]
      have := h2 (m - (q + 1))
      omega
  | succ r ihr =>
    intro q
    induction q with
    | zero =>
      rw [show csD t1 t2 al n m (r + 1) 0 = t1 (n - (r + 1)) + csD t1 t2 al n m r 0 from rfl]
      have := h1 (n - (r + 1))
      have := ihr 0
      omega
    | succ q ih =>
      rw [show csD t1 t2 al n m (r + 1) (q + 1) = if al (n - (r + 1)) (m - (q + 1)) = true then min (min (t1 (n - (r + 1)) + csD t1 t2 al n m r (q + 1)) (t2 (m - (q + 1)) + csD t1 t2 al n m (r + 1) q)) (farI (t1 (n - (r + 1))) (t2 (m - (q + 1))) + csD t1 t2 al n m r q) else min (t1 (n - (r + 1)) + csD t1 t2 al n m r (q + 1)) (t2 (m - (q + 1)) + csD t1 t2 al n m (r + 1) q) from rfl]
      have k1 := h1 (n - (r + 1))
      have k2 := h2 (m - (q + 1))
      have k3 := ihr q
      have k4 := ihr (q + 1)
      have k5 := far_0 (t1 (n - (r + 1))) (t2 (m - (q + 1)))
      split <;> omega
def alB (τ : Tau) (h g i j : Nat) : Bool := decide (cdO τ (2 * h) i = cdO τ (2 * g) j)
def CS (τ : Tau) (h g : Nat) : Nat → Nat → Int := csD (thO τ (2 * h)) (thO τ (2 * g)) (alB τ h g) (τ 8 (2 * h)).toNat (τ 8 (2 * g)).toNat
theorem CS_r {τ : Tau} (hR : Rng τ) (h g : Nat) {r q : Nat} (h1 : r ≤ 20) (h2 : q ≤ 20) : -800000 ≤ CS τ h g r q ∧ CS τ h g r q ≤ 800000 := by
  have := cs_r (al := alB τ h g) (n := (τ 8 (2 * h)).toNat) (m := (τ 8 (2 * g)).toNat) (th_r hR (2 * h)) (th_r hR (2 * g)) r q
  unfold CS
  omega
theorem CS_0c {τ : Tau} {h g N M q : Nat} (hN : (τ 8 (2 * h)).toNat = N) (hM : (τ 8 (2 * g)).toNat = M) (hq : 0 < q) : CS τ h g 0 q = thO τ (2 * g) (M - q) + CS τ h g 0 (q - 1) := by unfold CS; rw [hN, hM]; exact cs_0c hq
theorem CS_r0 {τ : Tau} {h g N M r : Nat} (hN : (τ 8 (2 * h)).toNat = N) (hM : (τ 8 (2 * g)).toNat = M) (hr : 0 < r) : CS τ h g r 0 = thO τ (2 * h) (N - r) + CS τ h g (r - 1) 0 := by unfold CS; rw [hN, hM]; exact cs_r0 hr
theorem CS_al {τ : Tau} {h g N M r q : Nat} (hN : (τ 8 (2 * h)).toNat = N) (hM : (τ 8 (2 * g)).toNat = M) (hr : 0 < r) (hq : 0 < q) (ha : cdO τ (2 * h) (N - r) = cdO τ (2 * g) (M - q)) : CS τ h g r q = min (min (thO τ (2 * h) (N - r) + CS τ h g (r - 1) q) (thO τ (2 * g) (M - q) + CS τ h g r (q - 1))) (farI (thO τ (2 * h) (N - r)) (thO τ (2 * g) (M - q)) + CS τ h g (r - 1) (q - 1)) := by
  unfold CS
  rw [hN, hM]
  exact (cs_rc hr hq).trans (if_pos (show alB τ h g (N - r) (M - q) = true from decide_eq_true ha))
theorem CS_na {τ : Tau} {h g N M r q : Nat} (hN : (τ 8 (2 * h)).toNat = N) (hM : (τ 8 (2 * g)).toNat = M) (hr : 0 < r) (hq : 0 < q) (ha : ¬ cdO τ (2 * h) (N - r) = cdO τ (2 * g) (M - q)) : CS τ h g r q = min (thO τ (2 * h) (N - r) + CS τ h g (r - 1) q) (thO τ (2 * g) (M - q) + CS τ h g r (q - 1)) := by
  unfold CS
  rw [hN, hM]
  exact (cs_rc hr hq).trans (if_neg (fun k => by unfold alB at k; exact ha (of_decide_eq_true k)))
def McP (τ : Tau) (h g : Nat) (τ2 : Tau) : Prop := (∀ c, c ≠ 26 → τ2 c = τ c) ∧ Rng τ2 ∧ ∀ di dj, di ≤ (τ 8 (2 * h)).toNat → dj ≤ (τ 8 (2 * g)).toNat → τ2 26 (21 * ((τ 8 (2 * h)).toNat - di) + ((τ 8 (2 * g)).toNat - dj)) = CS τ h g di dj
theorem fr_off {τ τ2 : Tau} (h : ∀ c, c ≠ 26 → τ2 c = τ c) (g k : Nat) : frO τ2 g k = frO τ g k := by unfold frO; rw [h 9 (by decide)]
theorem th_off {τ τ2 : Tau} (h : ∀ c, c ≠ 26 → τ2 c = τ c) (g k : Nat) : thO τ2 g k = thO τ g k := by unfold thO; rw [h 9 (by decide), fr_off h]
theorem cd_off {τ τ2 : Tau} (h : ∀ c, c ≠ 26 → τ2 c = τ c) (g k : Nat) : cdO τ2 g k = cdO τ g k := by unfold cdO; rw [h 11 (by decide), h 10 (by decide)]

set_option maxHeartbeats 4000000 in
set_option maxRecDepth 100000 in
theorem c8_match (l : Launch) (D : va_G) (cI cZ : ClassId) (ad : Nat → Nat) (τ : Tau) (hI : Rng τ) (h : Nat) (zh : Int) (hzh : zh = (h : Int)) (g : Nat) (zg : Int) (hzg : zg = (g : Int)) (h0 : h < 4) (h1 : g < 4) : Met l yX8_match wsX8_match { frames := 3, cells := 0, slots := 0, locals := 68 } (mPc D cI cZ ad τ [.ref (ad 0), .int (iI zh), .int (iI zg)]) (mX D cI cZ ad (none) (McP τ h g)) 0 0 (MA ad) := by
  subst hzh
  subst hzg
  refine m_start (by decide) rfl (Nat.le_of_ble_eq_true rfl) ?_
  intro p e s m below meth c hx hb hr hlocks hml hts hown hW hK ls hl
  have hin8 : ∀ w ∈ wsX80, w ∈ wsX8_match := by decide +kernel
  have hS : va_S (MA ad) s.heap s.heap [] := va_S.rf
  have hz : s.heap.size = s.heap.size := rfl
  have hR : Rng τ := hI
  have hl : lv_has ls 9 [(0, .ref (ad 0)), (1, .int (iI ((h : Int)))), (2, .int (iI ((g : Int))))] := hl
  obtain ⟨N, hN⟩ : ∃ N : Nat, τ 8 (2 * h) = N := ⟨(τ 8 (2 * h)).toNat, by have : (0 : Int) ≤ τ 8 (2 * h) ∧ τ 8 (2 * h) ≤ 20 := hI 8 (2 * h); omega⟩
  have hN2 : (τ 8 (2 * h)).toNat = N := by omega
  have hN3 : N ≤ 20 := by have : (0 : Int) ≤ τ 8 (2 * h) ∧ τ 8 (2 * h) ≤ 20 := hI 8 (2 * h); omega
  obtain ⟨M, hM⟩ : ∃ N : Nat, τ 8 (2 * g) = N := ⟨(τ 8 (2 * g)).toNat, by have : (0 : Int) ≤ τ 8 (2 * g) ∧ τ 8 (2 * g) ≤ 20 := hI 8 (2 * g); omega⟩
  have hM2 : (τ 8 (2 * g)).toNat = M := by omega
  have hM3 : M ≤ 20 := by have : (0 : Int) ≤ τ 8 (2 * g) ∧ τ 8 (2 * g) ≤ 20 := hI 8 (2 * g); omega
  refine lv_aload_n hx hb dX8_match_0 rfl (lv_at hl 0 rfl) ?_
  refine m_get hx hb hts hin8 hown hK hW 8 (by decide) (hts _ (by decide +kernel)) (v := .ref (ad 8)) rfl dX8_match_1 ?_
  refine z_iconst hx hb dX8_match_4 ?_
  refine lv_iload_n hx hb dX8_match_5 rfl (lv_at hl 1 rfl) ?_
  refine z_imul hx hb dX8_match_6 ?_
  refine m_ald (d := 8) (j := 2 * h) hx hb hK hW rfl (by omega) (show 2 * h < 8 from by omega) dX8_match_7 ?_
  have r1 : (0 : Int) ≤ τ 8 (2 * h) ∧ τ 8 (2 * h) ≤ 20 := hI 8 (2 * h)
  refine lv_istore_n (lv' := [(3, .int (iI (τ 8 (2 * h)))), (0, .ref (ad 0)), (1, .int (iI ((h : Int)))), (2, .int (iI ((g : Int))))]) hx hb dX8_match_8 rfl hl (by decide) rfl (fun ls hl => ?_)
  refine lv_aload_n hx hb dX8_match_9 rfl (lv_at hl 1 rfl) ?_
  refine m_get hx hb hts hin8 hown hK hW 8 (by decide) (hts _ (by decide +kernel)) (v := .ref (ad 8)) rfl dX8_match_10 ?_
  refine z_iconst hx hb dX8_match_13 ?_
  refine lv_iload_n hx hb dX8_match_14 rfl (lv_at hl 3 rfl) ?_
  refine z_imul hx hb dX8_match_15 ?_
  refine m_ald (d := 8) (j := 2 * g) hx hb hK hW rfl (by omega) (show 2 * g < 8 from by omega) dX8_match_16 ?_
  have r2 : (0 : Int) ≤ τ 8 (2 * g) ∧ τ 8 (2 * g) ≤ 20 := hI 8 (2 * g)
  refine lv_istore (lv' := [(4, .int (iI (τ 8 (2 * g)))), (3, .int (iI (τ 8 (2 * h)))), (0, .ref (ad 0)), (1, .int (iI ((h : Int)))), (2, .int (iI ((g : Int))))]) hx hb dX8_match_17 hl (by decide) rfl (fun ls hl => ?_)
  refine lv_iload_n hx hb dX8_match_19 rfl (lv_at hl 1 rfl) ?_
  refine lv_istore (lv' := [(5, .int (iI (τ 8 (2 * h)))), (4, .int (iI (τ 8 (2 * g)))), (3, .int (iI (τ 8 (2 * h)))), (0, .ref (ad 0)), (1, .int (iI ((h : Int)))), (2, .int (iI ((g : Int))))]) hx hb dX8_match_20 hl (by decide) rfl (fun ls hl => ?_)
  have lp22 : ∀ (n22 r : Nat) (x5 : Int) (τc : Tau), x5 = (N : Int) - (r : Int) → r ≤ (N + 1) → (N + 1) + 1 ≤ r + n22 → (∀ c, c ≠ 26 → τc c = τ c) → (∀ di dj, di < r → dj ≤ M → τc 26 (21 * (N - di) + (M - dj)) = CS τ h g di dj) → ∀ (H : Heap) (locs : List Loc), MW D cI cZ ad (τc) H → va_S (MA ad) s.heap H locs → H.size = s.heap.size → Rng (τc) → ∀ ls : Array Slot, lv_has ls 9 [(5, .int (iI (x5))), (4, .int (iI (τ 8 (2 * g)))), (3, .int (iI (τ 8 (2 * h)))), (0, .ref (ad 0)), (1, .int (iI ((h : Int)))), (2, .int (iI ((g : Int))))] → W p l e { frames := 3, cells := 0, slots := 0, locals := 68 } s m [.ref (ad 0), .int (iI ((h : Int))), .int (iI ((g : Int)))].toArray below meth c H locs 0 0 (MQ below (mX D cI cZ ad (none) (McP τ h g)) [.ref (ad 0), .int (iI ((h : Int))), .int (iI ((g : Int)))].toArray s 0 0 (MA ad)) (F0 m 22 ls []) := by
    intro n22
    induction n22 with
    | zero => intro r x5 τc ex5 hk1 hk2; exact absurd hk2 (by omega)
    | succ n22 ih22 =>
      intro r x5 τc ex5 hk1 hk2 ho hC H locs hW hS hz hR ls hl
      subst ex5
      refine lv_iload hx hb dX8_match_22 (lv_at hl 0 rfl) ?_
      refine z_if_lt (tgt := 237) hx hb (by omega) dX8_match_24 (by decide) (fun c3 => ?_) (fun c3 => ?_)
      · exact m_xvret hx hb hr hlocks (⟨⟨ho, hR, fun di dj h1 h2 => by rw [hN2, hM2]; exact hC di dj (by omega) (by omega)⟩, hW⟩) hS hz dX8_match_237
      · refine lv_iload hx hb dX8_match_27 (lv_at hl 1 rfl) ?_
        refine lv_istore (lv' := [(6, .int (iI (τ 8 (2 * g)))), (5, .int (iI ((N : Int) - (r : Int)))), (4, .int (iI (τ 8 (2 * g)))), (3, .int (iI (τ 8 (2 * h)))), (0, .ref (ad 0)), (1, .int (iI ((h : Int)))), (2, .int (iI ((g : Int))))]) hx hb dX8_match_29 hl (by decide) rfl (fun ls hl => ?_)
        have lp31 : ∀ (n31 q : Nat) (x6 : Int) (τd : Tau), x6 = (M : Int) - (q : Int) → q ≤ (M + 1) → (M + 1) + 1 ≤ q + n31 → (∀ c, c ≠ 26 → τd c = τ c) → (∀ di dj, di < r → dj ≤ M → τd 26 (21 * (N - di) + (M - dj)) = CS τ h g di dj) → (∀ dj, dj < q → τd 26 (21 * (N - r) + (M - dj)) = CS τ h g r dj) → ∀ (H : Heap) (locs : List Loc), MW D cI cZ ad (τd) H → va_S (MA ad) s.heap H locs → H.size = s.heap.size → Rng (τd) → ∀ ls : Array Slot, lv_has ls 9 [(6, .int (iI (x6))), (5, .int (iI ((N : Int) - (r : Int)))), (4, .int (iI (τ 8 (2 * g)))), (3, .int (iI (τ 8 (2 * h)))), (0, .ref (ad 0)), (1, .int (iI ((h : Int)))), (2, .int (iI ((g : Int))))] → W p l e { frames := 3, cells := 0, slots := 0, locals := 68 } s m [.ref (ad 0), .int (iI ((h : Int))), .int (iI ((g : Int)))].toArray below meth c H locs 0 0 (MQ below (mX D cI cZ ad (none) (McP τ h g)) [.ref (ad 0), .int (iI ((h : Int))), .int (iI ((g : Int)))].toArray s 0 0 (MA ad)) (F0 m 31 ls []) := by
          intro n31
          induction n31 with
          | zero => intro q x6 τd ex6 hk1 hk2; exact absurd hk2 (by omega)
          | succ n31 ih31 =>
            intro q x6 τd ex6 hk1 hk2 hdo hdC hdR H locs hW hS hz hR ls hl
            subst ex6
            refine lv_iload hx hb dX8_match_31 (lv_at hl 0 rfl) ?_
            refine z_if_lt (tgt := 231) hx hb (by omega) dX8_match_33 (by decide) (fun c4 => ?_) (fun c4 => ?_)
            · refine z_iinc (k := 1) (lv' := [(5, .int (iI (((N : Int) - (r : Int)) + (-1)))), (6, .int (iI ((M : Int) - (q : Int)))), (4, .int (iI (τ 8 (2 * g)))), (3, .int (iI (τ 8 (2 * h)))), (0, .ref (ad 0)), (1, .int (iI ((h : Int)))), (2, .int (iI ((g : Int))))]) hx hb dX8_match_231 hl rfl (by decide) rfl (fun ls hl => ?_)
              refine lv_goto (tgt := 22) hx hb dX8_match_234 (by decide) ?_
              exact ih22 (r + 1) (((N : Int) - (r : Int)) + (-1)) τd (by omega) (by omega) (by omega) hdo (fun di dj h1 h2 => if hd : di = r then (by rw [hd]; exact hdR dj (by omega)) else hdC di dj (by omega) h2) _ _ hW hS hz hR ls (lv_sub hl [0, 2, 3, 4, 5, 6] rfl)
            · have hb1 := CS_r hI h g (r := r - 1) (q := q) (by omega) (by omega)
              have hb2 := CS_r hI h g (r := r) (q := q - 1) (by omega) (by omega)
              have hb3 := CS_r hI h g (r := r - 1) (q := q - 1) (by omega) (by omega)
              have ht1 := th_r hI (2 * h) (N - r)
              have ht2 := th_r hI (2 * g) (M - q)
              have hf0 := far_0 (thO τ (2 * h) (N - r)) (thO τ (2 * g) (M - q))
              have hfu : farI (thO τ (2 * h) (N - r)) (thO τ (2 * g) (M - q)) ≤ 40000 := by unfold farI; split <;> omega
              by_cases hr0 : r = 0
              · by_cases hq0 : q = 0
                · refine lv_iload hx hb dX8_match_36 (lv_at hl 1 rfl) ?_
                  refine lv_iload_n hx hb dX8_match_38 rfl (lv_at hl 3 rfl) ?_
                  refine z_icmp_ne (tgt := 53) hx hb (by omega) (by omega) dX8_match_39 (by decide) (fun c5 => ?_) (fun c5 => ?_)
                  · exfalso; omega
                  · refine lv_iload hx hb dX8_match_42 (lv_at hl 0 rfl) ?_
                    refine lv_iload hx hb dX8_match_44 (lv_at hl 2 rfl) ?_
                    refine z_icmp_ne (tgt := 53) hx hb (by omega) (by omega) dX8_match_46 (by decide) (fun c6 => ?_) (fun c6 => ?_)
                    · exfalso; omega
                    · refine z_iconst hx hb dX8_match_49 ?_
                      refine lv_goto (tgt := 55) hx hb dX8_match_50 (by decide) ?_
                      refine lv_istore (lv' := [(7, .int (iI (0))), (6, .int (iI ((M : Int) - (q : Int)))), (5, .int (iI ((N : Int) - (r : Int)))), (4, .int (iI (τ 8 (2 * g)))), (3, .int (iI (τ 8 (2 * h)))), (0, .ref (ad 0)), (1, .int (iI ((h : Int)))), (2, .int (iI ((g : Int))))]) hx hb dX8_match_55 hl (by decide) rfl (fun ls hl => ?_)
                      refine lv_iload hx hb dX8_match_57 (lv_at hl 2 rfl) ?_
                      refine lv_iload_n hx hb dX8_match_59 rfl (lv_at hl 4 rfl) ?_
                      refine z_icmp_ge (tgt := 106) hx hb (by omega) (by omega) dX8_match_60 (by decide) (fun c7 => ?_) (fun c7 => ?_)
                      · refine lv_iload hx hb dX8_match_106 (lv_at hl 1 rfl) ?_
                        refine lv_iload hx hb dX8_match_108 (lv_at hl 3 rfl) ?_
                        refine z_icmp_ge (tgt := 156) hx hb (by omega) (by omega) dX8_match_110 (by decide) (fun c8 => ?_) (fun c8 => ?_)
                        · refine lv_iload hx hb dX8_match_156 (lv_at hl 2 rfl) ?_
                          refine lv_iload_n hx hb dX8_match_158 rfl (lv_at hl 4 rfl) ?_
                          refine z_icmp_ge (tgt := 210) hx hb (by omega) (by omega) dX8_match_159 (by decide) (fun c9 => ?_) (fun c9 => ?_)
                          · refine lv_aload_n hx hb dX8_match_210 rfl (lv_at hl 5 rfl) ?_
                            refine m_get hx hb hts hin8 hown hK hW 26 (by decide) (hts _ (by decide +kernel)) (v := .ref (ad 26)) rfl dX8_match_211 ?_
                            refine z_bipush hx hb dX8_match_214 (by decide) ?_
                            refine lv_iload hx hb dX8_match_216 (lv_at hl 2 rfl) ?_
                            refine z_imul hx hb dX8_match_218 ?_
                            refine lv_iload hx hb dX8_match_219 (lv_at hl 1 rfl) ?_
                            refine z_iadd hx hb dX8_match_221 ?_
                            refine lv_iload hx hb dX8_match_222 (lv_at hl 0 rfl) ?_
                            refine m_ast (d := 26) (j := (21 * (N - r)) + (M - q)) (v := 0) hx hb hK hW hS hz rfl (by omega) (show (21 * (N - r)) + (M - q) < 441 from by omega) dX8_match_224 (fun H locs hW hS hz => ?_)
                            have hR := Rng.tu (c := 26) (i := (21 * (N - r)) + (M - q)) (v := 0) hR (show (-2147483648 : Int) ≤ (0) from by omega) (show (0) ≤ 2147483647 from by omega)
                            refine z_iinc (k := 1) (lv' := [(6, .int (iI (((M : Int) - (q : Int)) + (-1)))), (7, .int (iI (0))), (5, .int (iI ((N : Int) - (r : Int)))), (4, .int (iI (τ 8 (2 * g)))), (3, .int (iI (τ 8 (2 * h)))), (0, .ref (ad 0)), (1, .int (iI ((h : Int)))), (2, .int (iI ((g : Int))))]) hx hb dX8_match_225 hl rfl (by decide) rfl (fun ls hl => ?_)
                            refine lv_goto (tgt := 31) hx hb dX8_match_228 (by decide) ?_
                            exact ih31 (q + 1) (((M : Int) - (q : Int)) + (-1)) (tu τd 26 ((21 * (N - r)) + (M - q)) 0) (by omega) (by omega) (by omega) (fun c hc => by rw [tu_n hc]; exact hdo c hc) (fun di dj h1 h2 => by rw [tu_c, fu_n (by omega)]; exact hdC di dj h1 h2) (fun dj hj => if hjq : dj = q then (by rw [hjq, tu_s]; rw [hr0, hq0]; rfl) else (by rw [tu_c, fu_n (by omega)]; exact hdR dj (by omega))) _ _ hW hS hz hR ls (lv_sub hl [0, 2, 3, 4, 5, 6, 7] rfl)
                          · exfalso; omega
                        · exfalso; omega
                      · exfalso; omega
                · refine lv_iload hx hb dX8_match_36 (lv_at hl 1 rfl) ?_
                  refine lv_iload_n hx hb dX8_match_38 rfl (lv_at hl 3 rfl) ?_
                  refine z_icmp_ne (tgt := 53) hx hb (by omega) (by omega) dX8_match_39 (by decide) (fun c10 => ?_) (fun c10 => ?_)
                  · exfalso; omega
                  · refine lv_iload hx hb dX8_match_42 (lv_at hl 0 rfl) ?_
                    refine lv_iload hx hb dX8_match_44 (lv_at hl 2 rfl) ?_
                    refine z_icmp_ne (tgt := 53) hx hb (by omega) (by omega) dX8_match_46 (by decide) (fun c11 => ?_) (fun c11 => ?_)
                    · refine z_ldc (n := 1000000) hx hb hown (hts (.constant RX8 205 (1000000)) (by decide +kernel)) (by decide) dX8_match_53 ?_
                      refine lv_istore (lv' := [(7, .int (iI (1000000))), (6, .int (iI ((M : Int) - (q : Int)))), (5, .int (iI ((N : Int) - (r : Int)))), (4, .int (iI (τ 8 (2 * g)))), (3, .int (iI (τ 8 (2 * h)))), (0, .ref (ad 0)), (1, .int (iI ((h : Int)))), (2, .int (iI ((g : Int))))]) hx hb dX8_match_55 hl (by decide) rfl (fun ls hl => ?_)
                      refine lv_iload hx hb dX8_match_57 (lv_at hl 2 rfl) ?_
                      refine lv_iload_n hx hb dX8_match_59 rfl (lv_at hl 4 rfl) ?_
                      refine z_icmp_ge (tgt := 106) hx hb (by omega) (by omega) dX8_match_60 (by decide) (fun c12 => ?_) (fun c12 => ?_)
                      · refine lv_iload hx hb dX8_match_106 (lv_at hl 1 rfl) ?_
                        refine lv_iload hx hb dX8_match_108 (lv_at hl 3 rfl) ?_
                        refine z_icmp_ge (tgt := 156) hx hb (by omega) (by omega) dX8_match_110 (by decide) (fun c13 => ?_) (fun c13 => ?_)
                        · exfalso; omega
                        · refine lv_aload_n hx hb dX8_match_113 rfl (lv_at hl 5 rfl) ?_
                          refine z_iconst hx hb dX8_match_114 ?_
                          refine lv_iload_n hx hb dX8_match_115 rfl (lv_at hl 7 rfl) ?_
                          refine z_imul hx hb dX8_match_116 ?_
                          refine lv_iload hx hb dX8_match_117 (lv_at hl 1 rfl) ?_
                          refine m_call (n := 2) (As := [.int (iI (2 * (g : Int))), .int (iI ((M : Int) - (q : Int)))]) (rest := []) hx hb hml hts hown hK hW (c8_thick l D cI cZ ad τd hR (2 * g) (2 * (g : Int)) (by omega) (M - q) ((M : Int) - (q : Int)) (by omega) (by omega) (by omega)) gX8_match_X8_thick rfl rfl rfl (by decide +kernel) ⟨by decide, by decide⟩ rfl hl.1 rfl (Nat.le_of_ble_eq_true rfl) ⟨Nat.zero_le _, Nat.zero_le _⟩ dX8_match_119 ?_
                          have r14 := th_r hR (2 * g) (M - q)
                          refine z_top (show thO τd (2 * g) (M - q) = thO τ (2 * g) (M - q) from th_off hdo _ _) ?_
                          refine lv_aload_n hx hb dX8_match_122 rfl (lv_at hl 5 rfl) ?_
                          refine m_get hx hb hts hin8 hown hK hW 26 (by decide) (hts _ (by decide +kernel)) (v := .ref (ad 26)) rfl dX8_match_123 ?_
                          refine z_bipush hx hb dX8_match_126 (by decide) ?_
                          refine lv_iload hx hb dX8_match_128 (lv_at hl 2 rfl) ?_
                          refine z_imul hx hb dX8_match_130 ?_
                          refine lv_iload hx hb dX8_match_131 (lv_at hl 1 rfl) ?_
                          refine z_iadd hx hb dX8_match_133 ?_
                          refine z_iconst hx hb dX8_match_134 ?_
                          refine z_iadd hx hb dX8_match_135 ?_
                          refine m_ald (d := 26) (j := 21 * (N - r) + (M - (q - 1))) hx hb hK hW rfl (by omega) (show 21 * (N - r) + (M - (q - 1)) < 441 from by omega) dX8_match_136 ?_
                          have r15 : (-2147483648 : Int) ≤ τd 26 (21 * (N - r) + (M - (q - 1))) ∧ τd 26 (21 * (N - r) + (M - (q - 1))) ≤ 2147483647 := hR 26 (21 * (N - r) + (M - (q - 1)))
                          refine z_top (show τd 26 (21 * (N - r) + (M - (q - 1))) = CS τ h g r (q - 1) from hdR (q - 1) (by omega)) ?_
                          refine z_iadd hx hb dX8_match_137 ?_
                          refine lv_istore (lv' := [(8, .int (iI ((thO τ (2 * g) (M - q)) + (CS τ h g r (q - 1))))), (7, .int (iI (1000000))), (6, .int (iI ((M : Int) - (q : Int)))), (5, .int (iI ((N : Int) - (r : Int)))), (4, .int (iI (τ 8 (2 * g)))), (3, .int (iI (τ 8 (2 * h)))), (0, .ref (ad 0)), (1, .int (iI ((h : Int)))), (2, .int (iI ((g : Int))))]) hx hb dX8_match_138 hl (by decide) rfl (fun ls hl => ?_)
                          refine lv_iload hx hb dX8_match_140 (lv_at hl 0 rfl) ?_
                          refine lv_iload hx hb dX8_match_142 (lv_at hl 1 rfl) ?_
                          refine z_icmp_ge (tgt := 152) hx hb (by omega) (by omega) dX8_match_144 (by decide) (fun c16 => ?_) (fun c16 => ?_)
                          · exfalso; omega
                          · refine lv_iload hx hb dX8_match_147 (lv_at hl 0 rfl) ?_
                            refine lv_goto (tgt := 154) hx hb dX8_match_149 (by decide) ?_
                            refine lv_istore (lv' := [(7, .int (iI ((thO τ (2 * g) (M - q)) + (CS τ h g r (q - 1))))), (8, .int (iI ((thO τ (2 * g) (M - q)) + (CS τ h g r (q - 1))))), (6, .int (iI ((M : Int) - (q : Int)))), (5, .int (iI ((N : Int) - (r : Int)))), (4, .int (iI (τ 8 (2 * g)))), (3, .int (iI (τ 8 (2 * h)))), (0, .ref (ad 0)), (1, .int (iI ((h : Int)))), (2, .int (iI ((g : Int))))]) hx hb dX8_match_154 hl (by decide) rfl (fun ls hl => ?_)
                            refine lv_iload hx hb dX8_match_156 (lv_at hl 3 rfl) ?_
                            refine lv_iload_n hx hb dX8_match_158 rfl (lv_at hl 5 rfl) ?_
                            refine z_icmp_ge (tgt := 210) hx hb (by omega) (by omega) dX8_match_159 (by decide) (fun c17 => ?_) (fun c17 => ?_)
                            · refine lv_aload_n hx hb dX8_match_210 rfl (lv_at hl 6 rfl) ?_
                              refine m_get hx hb hts hin8 hown hK hW 26 (by decide) (hts _ (by decide +kernel)) (v := .ref (ad 26)) rfl dX8_match_211 ?_
                              refine z_bipush hx hb dX8_match_214 (by decide) ?_
                              refine lv_iload hx hb dX8_match_216 (lv_at hl 3 rfl) ?_
                              refine z_imul hx hb dX8_match_218 ?_
                              refine lv_iload hx hb dX8_match_219 (lv_at hl 2 rfl) ?_
                              refine z_iadd hx hb dX8_match_221 ?_
                              refine lv_iload hx hb dX8_match_222 (lv_at hl 0 rfl) ?_
                              refine m_ast (d := 26) (j := (21 * (N - r)) + (M - q)) (v := (thO τ (2 * g) (M - q)) + (CS τ h g r (q - 1))) hx hb hK hW hS hz rfl (by omega) (show (21 * (N - r)) + (M - q) < 441 from by omega) dX8_match_224 (fun H locs hW hS hz => ?_)
                              have hR := Rng.tu (c := 26) (i := (21 * (N - r)) + (M - q)) (v := (thO τ (2 * g) (M - q)) + (CS τ h g r (q - 1))) hR (show (-2147483648 : Int) ≤ ((thO τ (2 * g) (M - q)) + (CS τ h g r (q - 1))) from by omega) (show ((thO τ (2 * g) (M - q)) + (CS τ h g r (q - 1))) ≤ 2147483647 from by omega)
                              refine z_iinc (k := 2) (lv' := [(6, .int (iI (((M : Int) - (q : Int)) + (-1)))), (7, .int (iI ((thO τ (2 * g) (M - q)) + (CS τ h g r (q - 1))))), (8, .int (iI ((thO τ (2 * g) (M - q)) + (CS τ h g r (q - 1))))), (5, .int (iI ((N : Int) - (r : Int)))), (4, .int (iI (τ 8 (2 * g)))), (3, .int (iI (τ 8 (2 * h)))), (0, .ref (ad 0)), (1, .int (iI ((h : Int)))), (2, .int (iI ((g : Int))))]) hx hb dX8_match_225 hl rfl (by decide) rfl (fun ls hl => ?_)
                              refine lv_goto (tgt := 31) hx hb dX8_match_228 (by decide) ?_
                              exact ih31 (q + 1) (((M : Int) - (q : Int)) + (-1)) (tu τd 26 ((21 * (N - r)) + (M - q)) ((thO τ (2 * g) (M - q)) + (CS τ h g r (q - 1)))) (by omega) (by omega) (by omega) (fun c hc => by rw [tu_n hc]; exact hdo c hc) (fun di dj h1 h2 => by rw [tu_c, fu_n (by omega)]; exact hdC di dj h1 h2) (fun dj hj => if hjq : dj = q then (by rw [hjq, tu_s]; rw [hr0]; exact (CS_0c hN2 hM2 (by omega)).symm) else (by rw [tu_c, fu_n (by omega)]; exact hdR dj (by omega))) _ _ hW hS hz hR ls (lv_sub hl [0, 3, 4, 5, 6, 7, 8] rfl)
                            · exfalso; omega
                      · exfalso; omega
                    · exfalso; omega
              · by_cases hq0 : q = 0
                · refine lv_iload hx hb dX8_match_36 (lv_at hl 1 rfl) ?_
                  refine lv_iload_n hx hb dX8_match_38 rfl (lv_at hl 3 rfl) ?_
                  refine z_icmp_ne (tgt := 53) hx hb (by omega) (by omega) dX8_match_39 (by decide) (fun c18 => ?_) (fun c18 => ?_)
                  · refine z_ldc (n := 1000000) hx hb hown (hts (.constant RX8 205 (1000000)) (by decide +kernel)) (by decide) dX8_match_53 ?_
                    refine lv_istore (lv' := [(7, .int (iI (1000000))), (6, .int (iI ((M : Int) - (q : Int)))), (5, .int (iI ((N : Int) - (r : Int)))), (4, .int (iI (τ 8 (2 * g)))), (3, .int (iI (τ 8 (2 * h)))), (0, .ref (ad 0)), (1, .int (iI ((h : Int)))), (2, .int (iI ((g : Int))))]) hx hb dX8_match_55 hl (by decide) rfl (fun ls hl => ?_)
                    refine lv_iload hx hb dX8_match_57 (lv_at hl 2 rfl) ?_
                    refine lv_iload_n hx hb dX8_match_59 rfl (lv_at hl 4 rfl) ?_
                    refine z_icmp_ge (tgt := 106) hx hb (by omega) (by omega) dX8_match_60 (by decide) (fun c19 => ?_) (fun c19 => ?_)
                    · exfalso; omega
                    · refine lv_aload_n hx hb dX8_match_63 rfl (lv_at hl 5 rfl) ?_
                      refine z_iconst hx hb dX8_match_64 ?_
                      refine lv_iload_n hx hb dX8_match_65 rfl (lv_at hl 6 rfl) ?_
                      refine z_imul hx hb dX8_match_66 ?_
                      refine lv_iload hx hb dX8_match_67 (lv_at hl 2 rfl) ?_
                      refine m_call (n := 2) (As := [.int (iI (2 * (h : Int))), .int (iI ((N : Int) - (r : Int)))]) (rest := []) hx hb hml hts hown hK hW (c8_thick l D cI cZ ad τd hR (2 * h) (2 * (h : Int)) (by omega) (N - r) ((N : Int) - (r : Int)) (by omega) (by omega) (by omega)) gX8_match_X8_thick rfl rfl rfl (by decide +kernel) ⟨by decide, by decide⟩ rfl hl.1 rfl (Nat.le_of_ble_eq_true rfl) ⟨Nat.zero_le _, Nat.zero_le _⟩ dX8_match_69 ?_
                      have r20 := th_r hR (2 * h) (N - r)
                      refine z_top (show thO τd (2 * h) (N - r) = thO τ (2 * h) (N - r) from th_off hdo _ _) ?_
                      refine lv_aload_n hx hb dX8_match_72 rfl (lv_at hl 5 rfl) ?_
                      refine m_get hx hb hts hin8 hown hK hW 26 (by decide) (hts _ (by decide +kernel)) (v := .ref (ad 26)) rfl dX8_match_73 ?_
                      refine z_bipush hx hb dX8_match_76 (by decide) ?_
                      refine lv_iload hx hb dX8_match_78 (lv_at hl 2 rfl) ?_
                      refine z_iconst hx hb dX8_match_80 ?_
                      refine z_iadd hx hb dX8_match_81 ?_
                      refine z_imul hx hb dX8_match_82 ?_
                      refine lv_iload hx hb dX8_match_83 (lv_at hl 1 rfl) ?_
                      refine z_iadd hx hb dX8_match_85 ?_
                      refine m_ald (d := 26) (j := 21 * (N - (r - 1)) + (M - q)) hx hb hK hW rfl (by omega) (show 21 * (N - (r - 1)) + (M - q) < 441 from by omega) dX8_match_86 ?_
                      have r21 : (-2147483648 : Int) ≤ τd 26 (21 * (N - (r - 1)) + (M - q)) ∧ τd 26 (21 * (N - (r - 1)) + (M - q)) ≤ 2147483647 := hR 26 (21 * (N - (r - 1)) + (M - q))
                      refine z_top (show τd 26 (21 * (N - (r - 1)) + (M - q)) = CS τ h g (r - 1) q from hdC (r - 1) q (by omega) (by omega)) ?_
                      refine z_iadd hx hb dX8_match_87 ?_
                      refine lv_istore (lv' := [(8, .int (iI ((thO τ (2 * h) (N - r)) + (CS τ h g (r - 1) q)))), (7, .int (iI (1000000))), (6, .int (iI ((M : Int) - (q : Int)))), (5, .int (iI ((N : Int) - (r : Int)))), (4, .int (iI (τ 8 (2 * g)))), (3, .int (iI (τ 8 (2 * h)))), (0, .ref (ad 0)), (1, .int (iI ((h : Int)))), (2, .int (iI ((g : Int))))]) hx hb dX8_match_88 hl (by decide) rfl (fun ls hl => ?_)
                      refine lv_iload hx hb dX8_match_90 (lv_at hl 0 rfl) ?_
                      refine lv_iload hx hb dX8_match_92 (lv_at hl 1 rfl) ?_
                      refine z_icmp_ge (tgt := 102) hx hb (by omega) (by omega) dX8_match_94 (by decide) (fun c22 => ?_) (fun c22 => ?_)
                      · exfalso; omega
                      · refine lv_iload hx hb dX8_match_97 (lv_at hl 0 rfl) ?_
                        refine lv_goto (tgt := 104) hx hb dX8_match_99 (by decide) ?_
                        refine lv_istore (lv' := [(7, .int (iI ((thO τ (2 * h) (N - r)) + (CS τ h g (r - 1) q)))), (8, .int (iI ((thO τ (2 * h) (N - r)) + (CS τ h g (r - 1) q)))), (6, .int (iI ((M : Int) - (q : Int)))), (5, .int (iI ((N : Int) - (r : Int)))), (4, .int (iI (τ 8 (2 * g)))), (3, .int (iI (τ 8 (2 * h)))), (0, .ref (ad 0)), (1, .int (iI ((h : Int)))), (2, .int (iI ((g : Int))))]) hx hb dX8_match_104 hl (by decide) rfl (fun ls hl => ?_)
                        refine lv_iload hx hb dX8_match_106 (lv_at hl 2 rfl) ?_
                        refine lv_iload hx hb dX8_match_108 (lv_at hl 4 rfl) ?_
                        refine z_icmp_ge (tgt := 156) hx hb (by omega) (by omega) dX8_match_110 (by decide) (fun c23 => ?_) (fun c23 => ?_)
                        · refine lv_iload hx hb dX8_match_156 (lv_at hl 3 rfl) ?_
                          refine lv_iload_n hx hb dX8_match_158 rfl (lv_at hl 5 rfl) ?_
                          refine z_icmp_ge (tgt := 210) hx hb (by omega) (by omega) dX8_match_159 (by decide) (fun c24 => ?_) (fun c24 => ?_)
                          · exfalso; omega
                          · refine lv_iload hx hb dX8_match_162 (lv_at hl 2 rfl) ?_
                            refine lv_iload hx hb dX8_match_164 (lv_at hl 4 rfl) ?_
                            refine z_icmp_ge (tgt := 210) hx hb (by omega) (by omega) dX8_match_166 (by decide) (fun c25 => ?_) (fun c25 => ?_)
                            · refine lv_aload_n hx hb dX8_match_210 rfl (lv_at hl 6 rfl) ?_
                              refine m_get hx hb hts hin8 hown hK hW 26 (by decide) (hts _ (by decide +kernel)) (v := .ref (ad 26)) rfl dX8_match_211 ?_
                              refine z_bipush hx hb dX8_match_214 (by decide) ?_
                              refine lv_iload hx hb dX8_match_216 (lv_at hl 3 rfl) ?_
                              refine z_imul hx hb dX8_match_218 ?_
                              refine lv_iload hx hb dX8_match_219 (lv_at hl 2 rfl) ?_
                              refine z_iadd hx hb dX8_match_221 ?_
                              refine lv_iload hx hb dX8_match_222 (lv_at hl 0 rfl) ?_
                              refine m_ast (d := 26) (j := (21 * (N - r)) + (M - q)) (v := (thO τ (2 * h) (N - r)) + (CS τ h g (r - 1) q)) hx hb hK hW hS hz rfl (by omega) (show (21 * (N - r)) + (M - q) < 441 from by omega) dX8_match_224 (fun H locs hW hS hz => ?_)
                              have hR := Rng.tu (c := 26) (i := (21 * (N - r)) + (M - q)) (v := (thO τ (2 * h) (N - r)) + (CS τ h g (r - 1) q)) hR (show (-2147483648 : Int) ≤ ((thO τ (2 * h) (N - r)) + (CS τ h g (r - 1) q)) from by omega) (show ((thO τ (2 * h) (N - r)) + (CS τ h g (r - 1) q)) ≤ 2147483647 from by omega)
                              refine z_iinc (k := 2) (lv' := [(6, .int (iI (((M : Int) - (q : Int)) + (-1)))), (7, .int (iI ((thO τ (2 * h) (N - r)) + (CS τ h g (r - 1) q)))), (8, .int (iI ((thO τ (2 * h) (N - r)) + (CS τ h g (r - 1) q)))), (5, .int (iI ((N : Int) - (r : Int)))), (4, .int (iI (τ 8 (2 * g)))), (3, .int (iI (τ 8 (2 * h)))), (0, .ref (ad 0)), (1, .int (iI ((h : Int)))), (2, .int (iI ((g : Int))))]) hx hb dX8_match_225 hl rfl (by decide) rfl (fun ls hl => ?_)
                              refine lv_goto (tgt := 31) hx hb dX8_match_228 (by decide) ?_
                              exact ih31 (q + 1) (((M : Int) - (q : Int)) + (-1)) (tu τd 26 ((21 * (N - r)) + (M - q)) ((thO τ (2 * h) (N - r)) + (CS τ h g (r - 1) q))) (by omega) (by omega) (by omega) (fun c hc => by rw [tu_n hc]; exact hdo c hc) (fun di dj h1 h2 => by rw [tu_c, fu_n (by omega)]; exact hdC di dj h1 h2) (fun dj hj => if hjq : dj = q then (by rw [hjq, tu_s]; rw [hq0]; exact (CS_r0 hN2 hM2 (by omega)).symm) else (by rw [tu_c, fu_n (by omega)]; exact hdR dj (by omega))) _ _ hW hS hz hR ls (lv_sub hl [0, 3, 4, 5, 6, 7, 8] rfl)
                            · exfalso; omega
                        · exfalso; omega
                  · exfalso; omega
                · refine lv_iload hx hb dX8_match_36 (lv_at hl 1 rfl) ?_
                  refine lv_iload_n hx hb dX8_match_38 rfl (lv_at hl 3 rfl) ?_
                  refine z_icmp_ne (tgt := 53) hx hb (by omega) (by omega) dX8_match_39 (by decide) (fun c26 => ?_) (fun c26 => ?_)
                  · refine z_ldc (n := 1000000) hx hb hown (hts (.constant RX8 205 (1000000)) (by decide +kernel)) (by decide) dX8_match_53 ?_
                    refine lv_istore (lv' := [(7, .int (iI (1000000))), (6, .int (iI ((M : Int) - (q : Int)))), (5, .int (iI ((N : Int) - (r : Int)))), (4, .int (iI (τ 8 (2 * g)))), (3, .int (iI (τ 8 (2 * h)))), (0, .ref (ad 0)), (1, .int (iI ((h : Int)))), (2, .int (iI ((g : Int))))]) hx hb dX8_match_55 hl (by decide) rfl (fun ls hl => ?_)
                    refine lv_iload hx hb dX8_match_57 (lv_at hl 2 rfl) ?_
                    refine lv_iload_n hx hb dX8_match_59 rfl (lv_at hl 4 rfl) ?_
                    refine z_icmp_ge (tgt := 106) hx hb (by omega) (by omega) dX8_match_60 (by decide) (fun c27 => ?_) (fun c27 => ?_)
                    · exfalso; omega
                    · refine lv_aload_n hx hb dX8_match_63 rfl (lv_at hl 5 rfl) ?_
                      refine z_iconst hx hb dX8_match_64 ?_
                      refine lv_iload_n hx hb dX8_match_65 rfl (lv_at hl 6 rfl) ?_
                      refine z_imul hx hb dX8_match_66 ?_
                      refine lv_iload hx hb dX8_match_67 (lv_at hl 2 rfl) ?_
                      refine m_call (n := 2) (As := [.int (iI (2 * (h : Int))), .int (iI ((N : Int) - (r : Int)))]) (rest := []) hx hb hml hts hown hK hW (c8_thick l D cI cZ ad τd hR (2 * h) (2 * (h : Int)) (by omega) (N - r) ((N : Int) - (r : Int)) (by omega) (by omega) (by omega)) gX8_match_X8_thick rfl rfl rfl (by decide +kernel) ⟨by decide, by decide⟩ rfl hl.1 rfl (Nat.le_of_ble_eq_true rfl) ⟨Nat.zero_le _, Nat.zero_le _⟩ dX8_match_69 ?_
                      have r28 := th_r hR (2 * h) (N - r)
                      refine z_top (show thO τd (2 * h) (N - r) = thO τ (2 * h) (N - r) from th_off hdo _ _) ?_
                      refine lv_aload_n hx hb dX8_match_72 rfl (lv_at hl 5 rfl) ?_
                      refine m_get hx hb hts hin8 hown hK hW 26 (by decide) (hts _ (by decide +kernel)) (v := .ref (ad 26)) rfl dX8_match_73 ?_
                      refine z_bipush hx hb dX8_match_76 (by decide) ?_
                      refine lv_iload hx hb dX8_match_78 (lv_at hl 2 rfl) ?_
                      refine z_iconst hx hb dX8_match_80 ?_
                      refine z_iadd hx hb dX8_match_81 ?_
                      refine z_imul hx hb dX8_match_82 ?_
                      refine lv_iload hx hb dX8_match_83 (lv_at hl 1 rfl) ?_
                      refine z_iadd hx hb dX8_match_85 ?_
                      refine m_ald (d := 26) (j := 21 * (N - (r - 1)) + (M - q)) hx hb hK hW rfl (by omega) (show 21 * (N - (r - 1)) + (M - q) < 441 from by omega) dX8_match_86 ?_
                      have r29 : (-2147483648 : Int) ≤ τd 26 (21 * (N - (r - 1)) + (M - q)) ∧ τd 26 (21 * (N - (r - 1)) + (M - q)) ≤ 2147483647 := hR 26 (21 * (N - (r - 1)) + (M - q))
                      refine z_top (show τd 26 (21 * (N - (r - 1)) + (M - q)) = CS τ h g (r - 1) q from hdC (r - 1) q (by omega) (by omega)) ?_
                      refine z_iadd hx hb dX8_match_87 ?_
                      refine lv_istore (lv' := [(8, .int (iI ((thO τ (2 * h) (N - r)) + (CS τ h g (r - 1) q)))), (7, .int (iI (1000000))), (6, .int (iI ((M : Int) - (q : Int)))), (5, .int (iI ((N : Int) - (r : Int)))), (4, .int (iI (τ 8 (2 * g)))), (3, .int (iI (τ 8 (2 * h)))), (0, .ref (ad 0)), (1, .int (iI ((h : Int)))), (2, .int (iI ((g : Int))))]) hx hb dX8_match_88 hl (by decide) rfl (fun ls hl => ?_)
                      refine lv_iload hx hb dX8_match_90 (lv_at hl 0 rfl) ?_
                      refine lv_iload hx hb dX8_match_92 (lv_at hl 1 rfl) ?_
                      refine z_icmp_ge (tgt := 102) hx hb (by omega) (by omega) dX8_match_94 (by decide) (fun c30 => ?_) (fun c30 => ?_)
                      · exfalso; omega
                      · refine lv_iload hx hb dX8_match_97 (lv_at hl 0 rfl) ?_
                        refine lv_goto (tgt := 104) hx hb dX8_match_99 (by decide) ?_
                        refine lv_istore (lv' := [(7, .int (iI ((thO τ (2 * h) (N - r)) + (CS τ h g (r - 1) q)))), (8, .int (iI ((thO τ (2 * h) (N - r)) + (CS τ h g (r - 1) q)))), (6, .int (iI ((M : Int) - (q : Int)))), (5, .int (iI ((N : Int) - (r : Int)))), (4, .int (iI (τ 8 (2 * g)))), (3, .int (iI (τ 8 (2 * h)))), (0, .ref (ad 0)), (1, .int (iI ((h : Int)))), (2, .int (iI ((g : Int))))]) hx hb dX8_match_104 hl (by decide) rfl (fun ls hl => ?_)
                        refine lv_iload hx hb dX8_match_106 (lv_at hl 2 rfl) ?_
                        refine lv_iload hx hb dX8_match_108 (lv_at hl 4 rfl) ?_
                        refine z_icmp_ge (tgt := 156) hx hb (by omega) (by omega) dX8_match_110 (by decide) (fun c31 => ?_) (fun c31 => ?_)
                        · exfalso; omega
                        · refine lv_aload_n hx hb dX8_match_113 rfl (lv_at hl 6 rfl) ?_
                          refine z_iconst hx hb dX8_match_114 ?_
                          refine lv_iload_n hx hb dX8_match_115 rfl (lv_at hl 8 rfl) ?_
                          refine z_imul hx hb dX8_match_116 ?_
                          refine lv_iload hx hb dX8_match_117 (lv_at hl 2 rfl) ?_
                          refine m_call (n := 2) (As := [.int (iI (2 * (g : Int))), .int (iI ((M : Int) - (q : Int)))]) (rest := []) hx hb hml hts hown hK hW (c8_thick l D cI cZ ad τd hR (2 * g) (2 * (g : Int)) (by omega) (M - q) ((M : Int) - (q : Int)) (by omega) (by omega) (by omega)) gX8_match_X8_thick rfl rfl rfl (by decide +kernel) ⟨by decide, by decide⟩ rfl hl.1 rfl (Nat.le_of_ble_eq_true rfl) ⟨Nat.zero_le _, Nat.zero_le _⟩ dX8_match_119 ?_
                          have r32 := th_r hR (2 * g) (M - q)
                          refine z_top (show thO τd (2 * g) (M - q) = thO τ (2 * g) (M - q) from th_off hdo _ _) ?_
                          refine lv_aload_n hx hb dX8_match_122 rfl (lv_at hl 6 rfl) ?_
                          refine m_get hx hb hts hin8 hown hK hW 26 (by decide) (hts _ (by decide +kernel)) (v := .ref (ad 26)) rfl dX8_match_123 ?_
                          refine z_bipush hx hb dX8_match_126 (by decide) ?_
                          refine lv_iload hx hb dX8_match_128 (lv_at hl 3 rfl) ?_
                          refine z_imul hx hb dX8_match_130 ?_
                          refine lv_iload hx hb dX8_match_131 (lv_at hl 2 rfl) ?_
                          refine z_iadd hx hb dX8_match_133 ?_
                          refine z_iconst hx hb dX8_match_134 ?_
                          refine z_iadd hx hb dX8_match_135 ?_
                          refine m_ald (d := 26) (j := 21 * (N - r) + (M - (q - 1))) hx hb hK hW rfl (by omega) (show 21 * (N - r) + (M - (q - 1)) < 441 from by omega) dX8_match_136 ?_
                          have r33 : (-2147483648 : Int) ≤ τd 26 (21 * (N - r) + (M - (q - 1))) ∧ τd 26 (21 * (N - r) + (M - (q - 1))) ≤ 2147483647 := hR 26 (21 * (N - r) + (M - (q - 1)))
                          refine z_top (show τd 26 (21 * (N - r) + (M - (q - 1))) = CS τ h g r (q - 1) from hdR (q - 1) (by omega)) ?_
                          refine z_iadd hx hb dX8_match_137 ?_
                          refine lv_istore (lv' := [(8, .int (iI ((thO τ (2 * g) (M - q)) + (CS τ h g r (q - 1))))), (7, .int (iI ((thO τ (2 * h) (N - r)) + (CS τ h g (r - 1) q)))), (6, .int (iI ((M : Int) - (q : Int)))), (5, .int (iI ((N : Int) - (r : Int)))), (4, .int (iI (τ 8 (2 * g)))), (3, .int (iI (τ 8 (2 * h)))), (0, .ref (ad 0)), (1, .int (iI ((h : Int)))), (2, .int (iI ((g : Int))))]) hx hb dX8_match_138 hl (by decide) rfl (fun ls hl => ?_)
                          have jn154 : ∀ xj : Int, xj = (min (thO τ (2 * h) (N - r) + CS τ h g (r - 1) q) (thO τ (2 * g) (M - q) + CS τ h g r (q - 1))) → ∀ ls : Array Slot, lv_has ls 9 [(8, .int (iI ((thO τ (2 * g) (M - q)) + (CS τ h g r (q - 1))))), (7, .int (iI ((thO τ (2 * h) (N - r)) + (CS τ h g (r - 1) q)))), (6, .int (iI ((M : Int) - (q : Int)))), (5, .int (iI ((N : Int) - (r : Int)))), (4, .int (iI (τ 8 (2 * g)))), (3, .int (iI (τ 8 (2 * h)))), (0, .ref (ad 0)), (1, .int (iI ((h : Int)))), (2, .int (iI ((g : Int))))] → W p l e { frames := 3, cells := 0, slots := 0, locals := 68 } s m [.ref (ad 0), .int (iI ((h : Int))), .int (iI ((g : Int)))].toArray below meth c H locs 0 0 (MQ below (mX D cI cZ ad (none) (McP τ h g)) [.ref (ad 0), .int (iI ((h : Int))), .int (iI ((g : Int)))].toArray s 0 0 (MA ad)) (F0 m 154 ls (.int (iI xj) :: [])) := by
                            intro xj ej ls hl
                            subst ej
                            refine lv_istore (lv' := [(7, .int (iI (min (thO τ (2 * h) (N - r) + CS τ h g (r - 1) q) (thO τ (2 * g) (M - q) + CS τ h g r (q - 1))))), (8, .int (iI ((thO τ (2 * g) (M - q)) + (CS τ h g r (q - 1))))), (6, .int (iI ((M : Int) - (q : Int)))), (5, .int (iI ((N : Int) - (r : Int)))), (4, .int (iI (τ 8 (2 * g)))), (3, .int (iI (τ 8 (2 * h)))), (0, .ref (ad 0)), (1, .int (iI ((h : Int)))), (2, .int (iI ((g : Int))))]) hx hb dX8_match_154 hl (by decide) rfl (fun ls hl => ?_)
                            refine lv_iload hx hb dX8_match_156 (lv_at hl 3 rfl) ?_
                            refine lv_iload_n hx hb dX8_match_158 rfl (lv_at hl 5 rfl) ?_
                            refine z_icmp_ge (tgt := 210) hx hb (by omega) (by omega) dX8_match_159 (by decide) (fun c34 => ?_) (fun c34 => ?_)
                            · exfalso; omega
                            · refine lv_iload hx hb dX8_match_162 (lv_at hl 2 rfl) ?_
                              refine lv_iload hx hb dX8_match_164 (lv_at hl 4 rfl) ?_
                              refine z_icmp_ge (tgt := 210) hx hb (by omega) (by omega) dX8_match_166 (by decide) (fun c35 => ?_) (fun c35 => ?_)
                              · exfalso; omega
                              · refine lv_aload_n hx hb dX8_match_169 rfl (lv_at hl 6 rfl) ?_
                                refine lv_iload_n hx hb dX8_match_170 rfl (lv_at hl 7 rfl) ?_
                                refine lv_iload_n hx hb dX8_match_171 rfl (lv_at hl 8 rfl) ?_
                                refine lv_iload hx hb dX8_match_172 (lv_at hl 3 rfl) ?_
                                refine lv_iload hx hb dX8_match_174 (lv_at hl 2 rfl) ?_
                                refine m_call (n := 4) (As := [.int (iI ((h : Int))), .int (iI ((g : Int))), .int (iI ((N : Int) - (r : Int))), .int (iI ((M : Int) - (q : Int)))]) (rest := []) hx hb hml hts hown hK hW (c8_mayGo l D cI cZ ad τd hR h (h : Int) (by omega) g (g : Int) (by omega) (N - r) ((N : Int) - (r : Int)) (by omega) (M - q) ((M : Int) - (q : Int)) (by omega) (by omega) (by omega) (by omega) (by omega)) gX8_match_X8_mayGo rfl rfl rfl (by decide +kernel) ⟨by decide, by decide⟩ rfl hl.1 rfl (Nat.le_of_ble_eq_true rfl) ⟨Nat.zero_le _, Nat.zero_le _⟩ dX8_match_176 ?_
                                refine z_if_eqB (tgt := 210) hx hb dX8_match_179 (by decide) (fun c36 => ?_) (fun c36 => ?_)
                                · rw [cd_off hdo, cd_off hdo] at c36
                                  have hal := c36
                                  refine lv_aload_n hx hb dX8_match_210 rfl (lv_at hl 6 rfl) ?_
                                  refine m_get hx hb hts hin8 hown hK hW 26 (by decide) (hts _ (by decide +kernel)) (v := .ref (ad 26)) rfl dX8_match_211 ?_
                                  refine z_bipush hx hb dX8_match_214 (by decide) ?_
                                  refine lv_iload hx hb dX8_match_216 (lv_at hl 3 rfl) ?_
                                  refine z_imul hx hb dX8_match_218 ?_
                                  refine lv_iload hx hb dX8_match_219 (lv_at hl 2 rfl) ?_
                                  refine z_iadd hx hb dX8_match_221 ?_
                                  refine lv_iload hx hb dX8_match_222 (lv_at hl 0 rfl) ?_
                                  refine m_ast (d := 26) (j := (21 * (N - r)) + (M - q)) (v := min (thO τ (2 * h) (N - r) + CS τ h g (r - 1) q) (thO τ (2 * g) (M - q) + CS τ h g r (q - 1))) hx hb hK hW hS hz rfl (by omega) (show (21 * (N - r)) + (M - q) < 441 from by omega) dX8_match_224 (fun H locs hW hS hz => ?_)
                                  have hR := Rng.tu (c := 26) (i := (21 * (N - r)) + (M - q)) (v := min (thO τ (2 * h) (N - r) + CS τ h g (r - 1) q) (thO τ (2 * g) (M - q) + CS τ h g r (q - 1))) hR (show (-2147483648 : Int) ≤ (min (thO τ (2 * h) (N - r) + CS τ h g (r - 1) q) (thO τ (2 * g) (M - q) + CS τ h g r (q - 1))) from by omega) (show (min (thO τ (2 * h) (N - r) + CS τ h g (r - 1) q) (thO τ (2 * g) (M - q) + CS τ h g r (q - 1))) ≤ 2147483647 from by omega)
                                  refine z_iinc (k := 2) (lv' := [(6, .int (iI (((M : Int) - (q : Int)) + (-1)))), (7, .int (iI (min (thO τ (2 * h) (N - r) + CS τ h g (r - 1) q) (thO τ (2 * g) (M - q) + CS τ h g r (q - 1))))), (8, .int (iI ((thO τ (2 * g) (M - q)) + (CS τ h g r (q - 1))))), (5, .int (iI ((N : Int) - (r : Int)))), (4, .int (iI (τ 8 (2 * g)))), (3, .int (iI (τ 8 (2 * h)))), (0, .ref (ad 0)), (1, .int (iI ((h : Int)))), (2, .int (iI ((g : Int))))]) hx hb dX8_match_225 hl rfl (by decide) rfl (fun ls hl => ?_)
                                  refine lv_goto (tgt := 31) hx hb dX8_match_228 (by decide) ?_
                                  exact ih31 (q + 1) (((M : Int) - (q : Int)) + (-1)) (tu τd 26 ((21 * (N - r)) + (M - q)) (min (thO τ (2 * h) (N - r) + CS τ h g (r - 1) q) (thO τ (2 * g) (M - q) + CS τ h g r (q - 1)))) (by omega) (by omega) (by omega) (fun c hc => by rw [tu_n hc]; exact hdo c hc) (fun di dj h1 h2 => by rw [tu_c, fu_n (by omega)]; exact hdC di dj h1 h2) (fun dj hj => if hjq : dj = q then (by rw [hjq, tu_s]; exact (CS_na hN2 hM2 (by omega) (by omega) hal).symm) else (by rw [tu_c, fu_n (by omega)]; exact hdR dj (by omega))) _ _ hW hS hz hR ls (lv_sub hl [0, 3, 4, 5, 6, 7, 8] rfl)
                                · rw [cd_off hdo, cd_off hdo] at c36
                                  have hal := c36
                                  refine lv_aload_n hx hb dX8_match_182 rfl (lv_at hl 6 rfl) ?_
                                  refine lv_iload_n hx hb dX8_match_183 rfl (lv_at hl 7 rfl) ?_
                                  refine lv_iload_n hx hb dX8_match_184 rfl (lv_at hl 8 rfl) ?_
                                  refine lv_iload hx hb dX8_match_185 (lv_at hl 3 rfl) ?_
                                  refine lv_iload hx hb dX8_match_187 (lv_at hl 2 rfl) ?_
                                  refine m_call (n := 4) (As := [.int (iI ((h : Int))), .int (iI ((g : Int))), .int (iI ((N : Int) - (r : Int))), .int (iI ((M : Int) - (q : Int)))]) (rest := []) hx hb hml hts hown hK hW (c8_pairCost l D cI cZ ad τd hR h (h : Int) (by omega) g (g : Int) (by omega) (N - r) ((N : Int) - (r : Int)) (by omega) (M - q) ((M : Int) - (q : Int)) (by omega) (by omega) (by omega) (by omega) (by omega)) gX8_match_X8_pairCost rfl rfl rfl (by decide +kernel) ⟨by decide, by decide⟩ rfl hl.1 rfl (Nat.le_of_ble_eq_true rfl) ⟨Nat.zero_le _, Nat.zero_le _⟩ dX8_match_189 ?_
                                  refine z_top (show pcO τd h g (N - r) (M - q) = farI (thO τ (2 * h) (N - r)) (thO τ (2 * g) (M - q)) + CS τ h g (r - 1) (q - 1) from by unfold pcO; rw [th_off hdo, th_off hdo, show 21 * (N - r + 1) + (M - q) + 1 = 21 * (N - (r - 1)) + (M - (q - 1)) by omega, hdC (r - 1) (q - 1) (by omega) (by omega)]) ?_
                                  refine lv_istore (lv' := [(8, .int (iI (farI (thO τ (2 * h) (N - r)) (thO τ (2 * g) (M - q)) + CS τ h g (r - 1) (q - 1)))), (7, .int (iI (min (thO τ (2 * h) (N - r) + CS τ h g (r - 1) q) (thO τ (2 * g) (M - q) + CS τ h g r (q - 1))))), (6, .int (iI ((M : Int) - (q : Int)))), (5, .int (iI ((N : Int) - (r : Int)))), (4, .int (iI (τ 8 (2 * g)))), (3, .int (iI (τ 8 (2 * h)))), (0, .ref (ad 0)), (1, .int (iI ((h : Int)))), (2, .int (iI ((g : Int))))]) hx hb dX8_match_192 hl (by decide) rfl (fun ls hl => ?_)
                                  have jn208 : ∀ xj : Int, xj = (min (min (thO τ (2 * h) (N - r) + CS τ h g (r - 1) q) (thO τ (2 * g) (M - q) + CS τ h g r (q - 1))) (farI (thO τ (2 * h) (N - r)) (thO τ (2 * g) (M - q)) + CS τ h g (r - 1) (q - 1))) → ∀ ls : Array Slot, lv_has ls 9 [(8, .int (iI (farI (thO τ (2 * h) (N - r)) (thO τ (2 * g) (M - q)) + CS τ h g (r - 1) (q - 1)))), (7, .int (iI (min (thO τ (2 * h) (N - r) + CS τ h g (r - 1) q) (thO τ (2 * g) (M - q) + CS τ h g r (q - 1))))), (6, .int (iI ((M : Int) - (q : Int)))), (5, .int (iI ((N : Int) - (r : Int)))), (4, .int (iI (τ 8 (2 * g)))), (3, .int (iI (τ 8 (2 * h)))), (0, .ref (ad 0)), (1, .int (iI ((h : Int)))), (2, .int (iI ((g : Int))))] → W p l e { frames := 3, cells := 0, slots := 0, locals := 68 } s m [.ref (ad 0), .int (iI ((h : Int))), .int (iI ((g : Int)))].toArray below meth c H locs 0 0 (MQ below (mX D cI cZ ad (none) (McP τ h g)) [.ref (ad 0), .int (iI ((h : Int))), .int (iI ((g : Int)))].toArray s 0 0 (MA ad)) (F0 m 208 ls (.int (iI xj) :: [])) := by
                                    intro xj ej ls hl
                                    subst ej
                                    refine lv_istore (lv' := [(7, .int (iI (min (min (thO τ (2 * h) (N - r) + CS τ h g (r - 1) q) (thO τ (2 * g) (M - q) + CS τ h g r (q - 1))) (farI (thO τ (2 * h) (N - r)) (thO τ (2 * g) (M - q)) + CS τ h g (r - 1) (q - 1))))), (8, .int (iI (farI (thO τ (2 * h) (N - r)) (thO τ (2 * g) (M - q)) + CS τ h g (r - 1) (q - 1)))), (6, .int (iI ((M : Int) - (q : Int)))), (5, .int (iI ((N : Int) - (r : Int)))), (4, .int (iI (τ 8 (2 * g)))), (3, .int (iI (τ 8 (2 * h)))), (0, .ref (ad 0)), (1, .int (iI ((h : Int)))), (2, .int (iI ((g : Int))))]) hx hb dX8_match_208 hl (by decide) rfl (fun ls hl => ?_)
                                    refine lv_aload_n hx hb dX8_match_210 rfl (lv_at hl 6 rfl) ?_
                                    refine m_get hx hb hts hin8 hown hK hW 26 (by decide) (hts _ (by decide +kernel)) (v := .ref (ad 26)) rfl dX8_match_211 ?_
                                    refine z_bipush hx hb dX8_match_214 (by decide) ?_
                                    refine lv_iload hx hb dX8_match_216 (lv_at hl 3 rfl) ?_
                                    refine z_imul hx hb dX8_match_218 ?_
                                    refine lv_iload hx hb dX8_match_219 (lv_at hl 2 rfl) ?_
                                    refine z_iadd hx hb dX8_match_221 ?_
                                    refine lv_iload hx hb dX8_match_222 (lv_at hl 0 rfl) ?_
                                    refine m_ast (d := 26) (j := (21 * (N - r)) + (M - q)) (v := min (min (thO τ (2 * h) (N - r) + CS τ h g (r - 1) q) (thO τ (2 * g) (M - q) + CS τ h g r (q - 1))) (farI (thO τ (2 * h) (N - r)) (thO τ (2 * g) (M - q)) + CS τ h g (r - 1) (q - 1))) hx hb hK hW hS hz rfl (by omega) (show (21 * (N - r)) + (M - q) < 441 from by omega) dX8_match_224 (fun H locs hW hS hz => ?_)
                                    have hR := Rng.tu (c := 26) (i := (21 * (N - r)) + (M - q)) (v := min (min (thO τ (2 * h) (N - r) + CS τ h g (r - 1) q) (thO τ (2 * g) (M - q) + CS τ h g r (q - 1))) (farI (thO τ (2 * h) (N - r)) (thO τ (2 * g) (M - q)) + CS τ h g (r - 1) (q - 1))) hR (show (-2147483648 : Int) ≤ (min (min (thO τ (2 * h) (N - r) + CS τ h g (r - 1) q) (thO τ (2 * g) (M - q) + CS τ h g r (q - 1))) (farI (thO τ (2 * h) (N - r)) (thO τ (2 * g) (M - q)) + CS τ h g (r - 1) (q - 1))) from by omega) (show (min (min (thO τ (2 * h) (N - r) + CS τ h g (r - 1) q) (thO τ (2 * g) (M - q) + CS τ h g r (q - 1))) (farI (thO τ (2 * h) (N - r)) (thO τ (2 * g) (M - q)) + CS τ h g (r - 1) (q - 1))) ≤ 2147483647 from by omega)
                                    refine z_iinc (k := 2) (lv' := [(6, .int (iI (((M : Int) - (q : Int)) + (-1)))), (7, .int (iI (min (min (thO τ (2 * h) (N - r) + CS τ h g (r - 1) q) (thO τ (2 * g) (M - q) + CS τ h g r (q - 1))) (farI (thO τ (2 * h) (N - r)) (thO τ (2 * g) (M - q)) + CS τ h g (r - 1) (q - 1))))), (8, .int (iI (farI (thO τ (2 * h) (N - r)) (thO τ (2 * g) (M - q)) + CS τ h g (r - 1) (q - 1)))), (5, .int (iI ((N : Int) - (r : Int)))), (4, .int (iI (τ 8 (2 * g)))), (3, .int (iI (τ 8 (2 * h)))), (0, .ref (ad 0)), (1, .int (iI ((h : Int)))), (2, .int (iI ((g : Int))))]) hx hb dX8_match_225 hl rfl (by decide) rfl (fun ls hl => ?_)
                                    refine lv_goto (tgt := 31) hx hb dX8_match_228 (by decide) ?_
                                    exact ih31 (q + 1) (((M : Int) - (q : Int)) + (-1)) (tu τd 26 ((21 * (N - r)) + (M - q)) (min (min (thO τ (2 * h) (N - r) + CS τ h g (r - 1) q) (thO τ (2 * g) (M - q) + CS τ h g r (q - 1))) (farI (thO τ (2 * h) (N - r)) (thO τ (2 * g) (M - q)) + CS τ h g (r - 1) (q - 1)))) (by omega) (by omega) (by omega) (fun c hc => by rw [tu_n hc]; exact hdo c hc) (fun di dj h1 h2 => by rw [tu_c, fu_n (by omega)]; exact hdC di dj h1 h2) (fun dj hj => if hjq : dj = q then (by rw [hjq, tu_s]; exact (CS_al hN2 hM2 (by omega) (by omega) hal).symm) else (by rw [tu_c, fu_n (by omega)]; exact hdR dj (by omega))) _ _ hW hS hz hR ls (lv_sub hl [0, 3, 4, 5, 6, 7, 8] rfl)
                                  refine lv_iload hx hb dX8_match_194 (lv_at hl 0 rfl) ?_
                                  refine lv_iload hx hb dX8_match_196 (lv_at hl 1 rfl) ?_
                                  refine z_icmp_ge (tgt := 206) hx hb (by omega) (by omega) dX8_match_198 (by decide) (fun c37 => ?_) (fun c37 => ?_)
                                  · refine lv_iload hx hb dX8_match_206 (lv_at hl 1 rfl) ?_
                                    exact jn208 (min (thO τ (2 * h) (N - r) + CS τ h g (r - 1) q) (thO τ (2 * g) (M - q) + CS τ h g r (q - 1))) (by omega) ls (lv_sub hl [0, 1, 2, 3, 4, 5, 6, 7, 8] rfl)
                                  · refine lv_iload hx hb dX8_match_201 (lv_at hl 0 rfl) ?_
                                    refine lv_goto (tgt := 208) hx hb dX8_match_203 (by decide) ?_
                                    exact jn208 (farI (thO τ (2 * h) (N - r)) (thO τ (2 * g) (M - q)) + CS τ h g (r - 1) (q - 1)) (by omega) ls (lv_sub hl [0, 1, 2, 3, 4, 5, 6, 7, 8] rfl)
                          refine lv_iload hx hb dX8_match_140 (lv_at hl 0 rfl) ?_
                          refine lv_iload hx hb dX8_match_142 (lv_at hl 1 rfl) ?_
                          refine z_icmp_ge (tgt := 152) hx hb (by omega) (by omega) dX8_match_144 (by decide) (fun c38 => ?_) (fun c38 => ?_)
                          · refine lv_iload hx hb dX8_match_152 (lv_at hl 1 rfl) ?_
                            exact jn154 ((thO τ (2 * h) (N - r)) + (CS τ h g (r - 1) q)) (by omega) ls (lv_sub hl [0, 1, 2, 3, 4, 5, 6, 7, 8] rfl)
                          · refine lv_iload hx hb dX8_match_147 (lv_at hl 0 rfl) ?_
                            refine lv_goto (tgt := 154) hx hb dX8_match_149 (by decide) ?_
                            exact jn154 ((thO τ (2 * g) (M - q)) + (CS τ h g r (q - 1))) (by omega) ls (lv_sub hl [0, 1, 2, 3, 4, 5, 6, 7, 8] rfl)
                  · exfalso; omega
        exact lp31 ((M + 1) + 1) 0 (τ 8 (2 * g)) τc (by omega) (by omega) (by omega) ho hC (fun dj h1 => absurd h1 (by omega)) _ _ hW hS hz hR ls (lv_sub hl [0, 1, 2, 3, 4, 5, 6] rfl)
  exact lp22 ((N + 1) + 1) 0 (τ 8 (2 * h)) τ (by omega) (by omega) (by omega) (fun _ _ => rfl) (fun di dj h1 _ => absurd h1 (by omega)) _ _ hW hS hz hR ls (lv_sub hl [0, 1, 2, 3, 4, 5] rfl)
def spCost (τ : Tau) (a b : Int) : Int := if ¬ ((0 ≤ a ∧ a < τ 0 0) ∧ (0 ≤ b ∧ b < τ 0 0)) then -101 else CS τ a.toNat b.toNat (τ 8 (2 * a.toNat)).toNat (τ 8 (2 * b.toNat)).toNat
def lpB (τ : Tau) (h g i f c : Nat) : Bool := decide (cdO τ (2 * h) i = cdO τ (2 * g) (f + c) ∧ frO τ (2 * g) (f + c) - frO τ (2 * g) f + (farI (thO τ (2 * h) i) (thO τ (2 * g) (f + c)) + CS τ h g ((τ 8 (2 * h)).toNat - (i + 1)) ((τ 8 (2 * g)).toNat - (f + c + 1))) = CS τ h g ((τ 8 (2 * h)).toNat - i) ((τ 8 (2 * g)).toNat - f))
def pfI (f : Nat) (v : Int) : Int := if v = -1 then -1 else f + v
def lpI (τ : Tau) (h g i f : Nat) : Int := pfI f (ff (lpB τ h g i f) ((τ 8 (2 * g)).toNat - f))
def maS (τ : Tau) (h g : Nat) : Nat → Nat × Int
  | 0 => (0, -1)
  | i + 1 => (if lpI τ h g i (maS τ h g i).1 = -1 then (maS τ h g i).1 else (lpI τ h g i (maS τ h g i).1).toNat + 1, lpI τ h g i (maS τ h g i).1)
def spMat (τ : Tau) (a b k : Int) : Int := if ¬ ((0 ≤ a ∧ a < τ 0 0) ∧ (0 ≤ b ∧ b < τ 0 0) ∧ (0 ≤ k ∧ k < τ 8 (2 * a.toNat))) then -101 else (maS τ a.toNat b.toNat (k.toNat + 1)).2
theorem ff_stay {f : Nat → Bool} {c : Nat} (h : 0 ≤ ff f c) : ∀ {n : Nat}, c ≤ n → ff f n = ff f c
  | 0, q => by rw [show c = 0 by omega]
  | n + 1, q => by
    rcases Nat.lt_or_ge n c with q2 | q2
    · rw [show c = n + 1 by omega]
    · have ih := ff_stay h q2
      show (if 0 ≤ ff f n then ff f n else if f n then (n : Int) else -1) = ff f c
      rw [ih, if_pos h]
theorem ff_1 (f : Nat → Bool) (n : Nat) : -1 ≤ ff f n ∧ ff f n < n ∨ ff f n = -1 := by
  have := ff_r f n
  omega
theorem fr_s (τ : Tau) (g k : Nat) : frO τ g (k + 1) = frO τ g k + thO τ g k := by
  unfold thO
  rw [show frO τ g (k + 1) = τ 9 (20 * g + k) from rfl]
  omega
theorem ma_r (τ : Tau) (h g : Nat) : ∀ i : Nat, (maS τ h g i).1 ≤ (τ 8 (2 * g)).toNat
  | 0 => Nat.zero_le _
  | i + 1 => by
    have ih := ma_r τ h g i
    have h1 := ff_1 (lpB τ h g i (maS τ h g i).1) ((τ 8 (2 * g)).toNat - (maS τ h g i).1)
    show (if lpI τ h g i (maS τ h g i).1 = -1 then (maS τ h g i).1 else (lpI τ h g i (maS τ h g i).1).toNat + 1) ≤ _
    split
    · exact ih
    · rename_i hn
      unfold lpI pfI at hn ⊢
      split at hn
      · exact absurd rfl hn
      · rw [if_neg (by assumption)]
        omega

set_option maxHeartbeats 4000000 in
set_option maxRecDepth 100000 in
theorem c8_cost (l : Launch) (D : va_G) (cI cZ : ClassId) (ad : Nat → Nat) (τ : Tau) (hI : Rng τ) (a : Int) (h_a : I32 a) (b : Int) (h_b : I32 b)  : Met l yX8_cost wsX8_cost { frames := 4, cells := 0, slots := 0, locals := 96 } (mPc D cI cZ ad τ [.ref (ad 0), .int (iI (a)), .int (iI (b))]) (mX D cI cZ ad (some (.int (iI (spCost τ a b)))) (Sc τ)) 0 0 (MA ad) := by
  refine m_start (by decide) rfl (Nat.le_of_ble_eq_true rfl) ?_
  intro p e s m below meth c hx hb hr hlocks hml hts hown hW hK ls hl
  have hin8 : ∀ w ∈ wsX80, w ∈ wsX8_cost := by decide +kernel
  have hS : va_S (MA ad) s.heap s.heap [] := va_S.rf
  have hz : s.heap.size = s.heap.size := rfl
  have hR : Rng τ := hI
  have hl : lv_has ls 3 [(0, .ref (ad 0)), (1, .int (iI (a))), (2, .int (iI (b)))] := hl
  refine lv_aload_n hx hb dX8_cost_0 rfl (lv_at hl 0 rfl) ?_
  refine lv_iload_n hx hb dX8_cost_1 rfl (lv_at hl 1 rfl) ?_
  refine m_call (n := 1) (As := [.int (iI (a))]) (rest := []) hx hb hml hts hown hK hW (c8_isHole l D cI cZ ad τ hI a (by omega)) gX8_cost_X8_isHole rfl rfl rfl (by decide +kernel) ⟨by decide, by decide⟩ rfl hl.1 rfl (Nat.le_of_ble_eq_true rfl) ⟨Nat.zero_le _, Nat.zero_le _⟩ dX8_cost_2 ?_
  have r1 := (show (0 : Int) ≤ τ 0 0 ∧ τ 0 0 ≤ 4 from hI 0 0)
  refine z_if_eqB (tgt := 16) hx hb dX8_cost_5 (by decide) (fun c2 => ?_) (fun c2 => ?_)
  · refine z_bipush hx hb dX8_cost_16 (by decide) ?_
    exact m_xret hx hb hr hlocks (⟨Sc.rf hI, hW⟩) hS hz (by unfold spCost; repeat (first | rw [if_pos (by first | assumption | omega)] | rw [if_neg (by first | assumption | omega | (intro hk; exact hk (by assumption)))])) dX8_cost_18
  · refine lv_aload_n hx hb dX8_cost_8 rfl (lv_at hl 0 rfl) ?_
    refine lv_iload_n hx hb dX8_cost_9 rfl (lv_at hl 2 rfl) ?_
    refine m_call (n := 1) (As := [.int (iI (b))]) (rest := []) hx hb hml hts hown hK hW (c8_isHole l D cI cZ ad τ hI b (by omega)) gX8_cost_X8_isHole rfl rfl rfl (by decide +kernel) ⟨by decide, by decide⟩ rfl hl.1 rfl (Nat.le_of_ble_eq_true rfl) ⟨Nat.zero_le _, Nat.zero_le _⟩ dX8_cost_10 ?_
    have r3 := (show (0 : Int) ≤ τ 0 0 ∧ τ 0 0 ≤ 4 from hI 0 0)
    refine z_if_neB (tgt := 19) hx hb dX8_cost_13 (by decide) (fun c4 => ?_) (fun c4 => ?_)
    · refine lv_aload_n hx hb dX8_cost_19 rfl (lv_at hl 0 rfl) ?_
      refine lv_iload_n hx hb dX8_cost_20 rfl (lv_at hl 1 rfl) ?_
      refine lv_iload_n hx hb dX8_cost_21 rfl (lv_at hl 2 rfl) ?_
      refine m_callX (n := 2) (As := [.int (iI (a)), .int (iI (b))]) (rest := []) hx hb hml hts hown hK hW hS hz (c8_match l D cI cZ ad τ hI a.toNat a (by omega) b.toNat b (by omega) (by omega) (by omega)) gX8_cost_X8_match rfl rfl rfl (by decide +kernel) ⟨by decide, by decide⟩ rfl hl.1 rfl (Nat.le_of_ble_eq_true rfl) ⟨Nat.zero_le _, Nat.zero_le _⟩ dX8_cost_22 (fun τ2 hq H locs hW hS hz => ?_)
      have hR := hq.2.1
      refine lv_aload_n hx hb dX8_cost_25 rfl (lv_at hl 0 rfl) ?_
      refine m_get hx hb hts hin8 hown hK hW 26 (by decide) (hts _ (by decide +kernel)) (v := .ref (ad 26)) rfl dX8_cost_26 ?_
      refine z_iconst hx hb dX8_cost_29 ?_
      refine m_ald (d := 26) (j := 0) hx hb hK hW rfl (by omega) (show 0 < 441 from by omega) dX8_cost_30 ?_
      have r5 : (-2147483648 : Int) ≤ τ2 26 0 ∧ τ2 26 0 ≤ 2147483647 := hR 26 0
      refine z_top (show τ2 26 0 = CS τ a.toNat b.toNat (τ 8 (2 * a.toNat)).toNat (τ 8 (2 * b.toNat)).toNat from by have := hq.2.2 (τ 8 (2 * a.toNat)).toNat (τ 8 (2 * b.toNat)).toNat (Nat.le_refl _) (Nat.le_refl _); rw [Nat.sub_self, Nat.sub_self] at this; exact this) ?_
      exact m_xret hx hb hr hlocks (⟨⟨fun c _ _ h26 => hq.1 c h26, hq.2.1⟩, hW⟩) hS hz (by unfold spCost; repeat (first | rw [if_pos (by first | assumption | omega)] | rw [if_neg (by first | assumption | omega | (intro hk; exact hk (by assumption)))])) dX8_cost_31
    · refine z_bipush hx hb dX8_cost_16 (by decide) ?_
      exact m_xret hx hb hr hlocks (⟨Sc.rf hI, hW⟩) hS hz (by unfold spCost; repeat (first | rw [if_pos (by first | assumption | omega)] | rw [if_neg (by first | assumption | omega | (intro hk; exact hk (by assumption)))])) dX8_cost_18
set_option maxHeartbeats 4000000 in
set_option maxRecDepth 100000 in
theorem c8_matched (l : Launch) (D : va_G) (cI cZ : ClassId) (ad : Nat → Nat) (τ : Tau) (hI : Rng τ) (a : Int) (h_a : I32 a) (b : Int) (h_b : I32 b) (k : Int) (h_k : I32 k)  : Met l yX8_matched wsX8_matched { frames := 4, cells := 0, slots := 0, locals := 96 } (mPc D cI cZ ad τ [.ref (ad 0), .int (iI (a)), .int (iI (b)), .int (iI (k))]) (mX D cI cZ ad (some (.int (iI (spMat τ a b k)))) (Sc τ)) 0 0 (MA ad) := by
  refine m_start (by decide) rfl (Nat.le_of_ble_eq_true rfl) ?_
  intro p e s m below meth c hx hb hr hlocks hml hts hown hW hK ls hl
  have hin8 : ∀ w ∈ wsX80, w ∈ wsX8_matched := by decide +kernel
  have hS : va_S (MA ad) s.heap s.heap [] := va_S.rf
  have hz : s.heap.size = s.heap.size := rfl
  have hR : Rng τ := hI
  have hl : lv_has ls 10 [(0, .ref (ad 0)), (1, .int (iI (a))), (2, .int (iI (b))), (3, .int (iI (k)))] := hl
  refine lv_aload_n hx hb dX8_matched_0 rfl (lv_at hl 0 rfl) ?_
  refine lv_iload_n hx hb dX8_matched_1 rfl (lv_at hl 1 rfl) ?_
  refine m_call (n := 1) (As := [.int (iI (a))]) (rest := []) hx hb hml hts hown hK hW (c8_isHole l D cI cZ ad τ hI a (by omega)) gX8_matched_X8_isHole rfl rfl rfl (by decide +kernel) ⟨by decide, by decide⟩ rfl hl.1 rfl (Nat.le_of_ble_eq_true rfl) ⟨Nat.zero_le _, Nat.zero_le _⟩ dX8_matched_2 ?_
  have r1 := (show (0 : Int) ≤ τ 0 0 ∧ τ 0 0 ≤ 4 from hI 0 0)
  refine z_if_eqB (tgt := 36) hx hb dX8_matched_5 (by decide) (fun c2 => ?_) (fun c2 => ?_)
  · refine z_bipush hx hb dX8_matched_36 (by decide) ?_
    exact m_xret hx hb hr hlocks (⟨Sc.rf hI, hW⟩) hS hz (by unfold spMat; repeat (first | rw [if_pos (by first | assumption | omega)] | rw [if_neg (by first | assumption | omega | (intro hk; exact hk (by assumption)))])) dX8_matched_38
  · refine lv_aload_n hx hb dX8_matched_8 rfl (lv_at hl 0 rfl) ?_
    refine lv_iload_n hx hb dX8_matched_9 rfl (lv_at hl 2 rfl) ?_
    refine m_call (n := 1) (As := [.int (iI (b))]) (rest := []) hx hb hml hts hown hK hW (c8_isHole l D cI cZ ad τ hI b (by omega)) gX8_matched_X8_isHole rfl rfl rfl (by decide +kernel) ⟨by decide, by decide⟩ rfl hl.1 rfl (Nat.le_of_ble_eq_true rfl) ⟨Nat.zero_le _, Nat.zero_le _⟩ dX8_matched_10 ?_
    have r3 := (show (0 : Int) ≤ τ 0 0 ∧ τ 0 0 ≤ 4 from hI 0 0)
    refine z_if_eqB (tgt := 36) hx hb dX8_matched_13 (by decide) (fun c4 => ?_) (fun c4 => ?_)
    · refine z_bipush hx hb dX8_matched_36 (by decide) ?_
      exact m_xret hx hb hr hlocks (⟨Sc.rf hI, hW⟩) hS hz (by unfold spMat; repeat (first | rw [if_pos (by first | assumption | omega)] | rw [if_neg (by first | assumption | omega | (intro hk; exact hk (by assumption)))])) dX8_matched_38
    · refine lv_iload_n hx hb dX8_matched_16 rfl (lv_at hl 3 rfl) ?_
      refine z_i2l hx hb (by omega) dX8_matched_17 ?_
      refine z_lconst (n := 0) hx hb (by decide) dX8_matched_18 ?_
      refine lv_aload_n hx hb dX8_matched_19 rfl (lv_at hl 0 rfl) ?_
      refine m_get hx hb hts hin8 hown hK hW 8 (by decide) (hts _ (by decide +kernel)) (v := .ref (ad 8)) rfl dX8_matched_20 ?_
      refine z_iconst hx hb dX8_matched_23 ?_
      refine lv_iload_n hx hb dX8_matched_24 rfl (lv_at hl 1 rfl) ?_
      refine z_imul hx hb dX8_matched_25 ?_
      refine m_ald (d := 8) (j := 2 * a.toNat) hx hb hK hW rfl (by omega) (show 2 * a.toNat < 8 from by omega) dX8_matched_26 ?_
      have r5 : (0 : Int) ≤ τ 8 (2 * a.toNat) ∧ τ 8 (2 * a.toNat) ≤ 20 := hI 8 (2 * a.toNat)
      refine z_iconst hx hb dX8_matched_27 ?_
      refine z_isub hx hb dX8_matched_28 ?_
      refine z_i2l hx hb (by omega) dX8_matched_29 ?_
      refine s_call (n := 3) (As := [.long (lL (k)), .long (lL (0)), .long (lL ((τ 8 (2 * a.toNat)) - 1))]) (rest := []) hx hb hml hts hown (c8_in l k (by omega) 0 (by omega) ((τ 8 (2 * a.toNat)) - 1) (by omega)) gX8_matched_X8_in rfl rfl rfl (by decide +kernel) ⟨by decide, by decide⟩ rfl hl.1 rfl (Nat.le_of_ble_eq_true rfl) ⟨Nat.zero_le _, Nat.zero_le _⟩ dX8_matched_30 ?_
      refine z_if_neB (tgt := 39) hx hb dX8_matched_33 (by decide) (fun c6 => ?_) (fun c6 => ?_)
      · refine lv_aload_n hx hb dX8_matched_39 rfl (lv_at hl 0 rfl) ?_
        refine lv_iload_n hx hb dX8_matched_40 rfl (lv_at hl 1 rfl) ?_
        refine lv_iload_n hx hb dX8_matched_41 rfl (lv_at hl 2 rfl) ?_
        refine m_callX (n := 2) (As := [.int (iI (a)), .int (iI (b))]) (rest := []) hx hb hml hts hown hK hW hS hz (c8_match l D cI cZ ad τ hI a.toNat a (by omega) b.toNat b (by omega) (by omega) (by omega)) gX8_matched_X8_match rfl rfl rfl (by decide +kernel) ⟨by decide, by decide⟩ rfl hl.1 rfl (Nat.le_of_ble_eq_true rfl) ⟨Nat.zero_le _, Nat.zero_le _⟩ dX8_matched_42 (fun τ2 hq H locs hW hS hz => ?_)
        have hR := hq.2.1
        obtain ⟨N, hN⟩ : ∃ N : Nat, τ 8 (2 * a.toNat) = N := ⟨(τ 8 (2 * a.toNat)).toNat, by have : (0 : Int) ≤ τ 8 (2 * a.toNat) ∧ τ 8 (2 * a.toNat) ≤ 20 := hI 8 (2 * a.toNat); omega⟩
        have hN2 : (τ 8 (2 * a.toNat)).toNat = N := by omega
        have hN3 : N ≤ 20 := by have : (0 : Int) ≤ τ 8 (2 * a.toNat) ∧ τ 8 (2 * a.toNat) ≤ 20 := hI 8 (2 * a.toNat); omega
        obtain ⟨M, hM⟩ : ∃ N : Nat, τ 8 (2 * b.toNat) = N := ⟨(τ 8 (2 * b.toNat)).toNat, by have : (0 : Int) ≤ τ 8 (2 * b.toNat) ∧ τ 8 (2 * b.toNat) ≤ 20 := hI 8 (2 * b.toNat); omega⟩
        have hM2 : (τ 8 (2 * b.toNat)).toNat = M := by omega
        have hM3 : M ≤ 20 := by have : (0 : Int) ≤ τ 8 (2 * b.toNat) ∧ τ 8 (2 * b.toNat) ≤ 20 := hI 8 (2 * b.toNat); omega
        refine lv_aload_n hx hb dX8_matched_45 rfl (lv_at hl 0 rfl) ?_
        refine m_get hx hb hts hin8 hown hK hW 8 (by decide) (hts _ (by decide +kernel)) (v := .ref (ad 8)) rfl dX8_matched_46 ?_
        refine z_iconst hx hb dX8_matched_49 ?_
        refine lv_iload_n hx hb dX8_matched_50 rfl (lv_at hl 2 rfl) ?_
        refine z_imul hx hb dX8_matched_51 ?_
        refine m_ald (d := 8) (j := 2 * b.toNat) hx hb hK hW rfl (by omega) (show 2 * b.toNat < 8 from by omega) dX8_matched_52 ?_
        refine z_top (show τ2 8 (2 * b.toNat) = τ 8 (2 * b.toNat) from by rw [hq.1 8 (by decide)]) ?_
        have r7 : (0 : Int) ≤ τ 8 (2 * b.toNat) ∧ τ 8 (2 * b.toNat) ≤ 20 := hI 8 (2 * b.toNat)
        refine lv_istore (lv' := [(4, .int (iI (τ 8 (2 * b.toNat)))), (0, .ref (ad 0)), (1, .int (iI (a))), (2, .int (iI (b))), (3, .int (iI (k)))]) hx hb dX8_matched_53 hl (by decide) rfl (fun ls hl => ?_)
        refine z_iconst hx hb dX8_matched_55 ?_
        refine lv_istore (lv' := [(5, .int (iI (0))), (4, .int (iI (τ 8 (2 * b.toNat)))), (0, .ref (ad 0)), (1, .int (iI (a))), (2, .int (iI (b))), (3, .int (iI (k)))]) hx hb dX8_matched_56 hl (by decide) rfl (fun ls hl => ?_)
        refine z_iconst hx hb dX8_matched_58 ?_
        refine lv_istore (lv' := [(6, .int (iI ((-1)))), (5, .int (iI (0))), (4, .int (iI (τ 8 (2 * b.toNat)))), (0, .ref (ad 0)), (1, .int (iI (a))), (2, .int (iI (b))), (3, .int (iI (k)))]) hx hb dX8_matched_59 hl (by decide) rfl (fun ls hl => ?_)
        refine z_iconst hx hb dX8_matched_61 ?_
        refine lv_istore (lv' := [(7, .int (iI (0))), (6, .int (iI ((-1)))), (5, .int (iI (0))), (4, .int (iI (τ 8 (2 * b.toNat)))), (0, .ref (ad 0)), (1, .int (iI (a))), (2, .int (iI (b))), (3, .int (iI (k)))]) hx hb dX8_matched_62 hl (by decide) rfl (fun ls hl => ?_)
        have lp64 : ∀ (n64 i : Nat) (x5 x6 x7 : Int), x5 = ((maS τ a.toNat b.toNat i).1 : Int) → x6 = (maS τ a.toNat b.toNat i).2 → x7 = (i : Int) → i ≤ (k.toNat + 1) → (k.toNat + 1) + 1 ≤ i + n64 → ∀ ls : Array Slot, lv_has ls 10 [(5, .int (iI (x5))), (6, .int (iI (x6))), (7, .int (iI (x7))), (4, .int (iI (τ 8 (2 * b.toNat)))), (0, .ref (ad 0)), (1, .int (iI (a))), (2, .int (iI (b))), (3, .int (iI (k)))] → W p l e { frames := 4, cells := 0, slots := 0, locals := 96 } s m [.ref (ad 0), .int (iI (a)), .int (iI (b)), .int (iI (k))].toArray below meth c H locs 0 0 (MQ below (mX D cI cZ ad (some (.int (iI (spMat τ a b k)))) (Sc τ)) [.ref (ad 0), .int (iI (a)), .int (iI (b)), .int (iI (k))].toArray s 0 0 (MA ad)) (F0 m 64 ls []) := by
          intro n64
          induction n64 with
          | zero => intro i x5 x6 x7  ex5 ex6 ex7 hk1 hk2; exact absurd hk2 (by omega)
          | succ n64 ih64 =>
            intro i x5 x6 x7  ex5 ex6 ex7 hk1 hk2  ls hl
            subst ex5
            subst ex6
            subst ex7
            have hma := ma_r τ a.toNat b.toNat i
            refine lv_iload hx hb dX8_matched_64 (lv_at hl 2 rfl) ?_
            refine lv_iload_n hx hb dX8_matched_66 rfl (lv_at hl 7 rfl) ?_
            refine z_icmp_gt (tgt := 182) hx hb (by omega) (by omega) dX8_matched_67 (by decide) (fun c8 => ?_) (fun c8 => ?_)
            · refine lv_iload hx hb dX8_matched_182 (lv_at hl 1 rfl) ?_
              exact m_xret hx hb hr hlocks (⟨⟨fun c _ _ h26 => hq.1 c h26, hq.2.1⟩, hW⟩) hS hz (by unfold spMat; rw [if_neg (by omega), show k.toNat + 1 = i by omega]) dX8_matched_184
            · refine z_iconst hx hb dX8_matched_70 ?_
              refine lv_istore (lv' := [(6, .int (iI ((-1)))), (5, .int (iI (((maS τ a.toNat b.toNat i).1 : Int)))), (7, .int (iI ((i : Int)))), (4, .int (iI (τ 8 (2 * b.toNat)))), (0, .ref (ad 0)), (1, .int (iI (a))), (2, .int (iI (b))), (3, .int (iI (k)))]) hx hb dX8_matched_71 hl (by decide) rfl (fun ls hl => ?_)
              refine z_iconst hx hb dX8_matched_73 ?_
              refine lv_istore (lv' := [(8, .int (iI (0))), (6, .int (iI ((-1)))), (5, .int (iI (((maS τ a.toNat b.toNat i).1 : Int)))), (7, .int (iI ((i : Int)))), (4, .int (iI (τ 8 (2 * b.toNat)))), (0, .ref (ad 0)), (1, .int (iI (a))), (2, .int (iI (b))), (3, .int (iI (k)))]) hx hb dX8_matched_74 hl (by decide) rfl (fun ls hl => ?_)
              refine lv_iload hx hb dX8_matched_76 (lv_at hl 2 rfl) ?_
              refine lv_istore (lv' := [(9, .int (iI (((maS τ a.toNat b.toNat i).1 : Int)))), (8, .int (iI (0))), (6, .int (iI ((-1)))), (5, .int (iI (((maS τ a.toNat b.toNat i).1 : Int)))), (7, .int (iI ((i : Int)))), (4, .int (iI (τ 8 (2 * b.toNat)))), (0, .ref (ad 0)), (1, .int (iI (a))), (2, .int (iI (b))), (3, .int (iI (k)))]) hx hb dX8_matched_78 hl (by decide) rfl (fun ls hl => ?_)
              have lp80 : ∀ (n80 q : Nat) (x6 x8 x9 : Int), x6 = pfI (maS τ a.toNat b.toNat i).1 (ff (lpB τ a.toNat b.toNat i (maS τ a.toNat b.toNat i).1) q) → x8 = frO τ (2 * b.toNat) ((maS τ a.toNat b.toNat i).1 + q) - frO τ (2 * b.toNat) (maS τ a.toNat b.toNat i).1 → x9 = ((maS τ a.toNat b.toNat i).1 : Int) + (q : Int) → q ≤ (M - (maS τ a.toNat b.toNat i).1) → (M - (maS τ a.toNat b.toNat i).1) + 1 ≤ q + n80 → ∀ ls : Array Slot, lv_has ls 10 [(6, .int (iI (x6))), (8, .int (iI (x8))), (9, .int (iI (x9))), (5, .int (iI (((maS τ a.toNat b.toNat i).1 : Int)))), (7, .int (iI ((i : Int)))), (4, .int (iI (τ 8 (2 * b.toNat)))), (0, .ref (ad 0)), (1, .int (iI (a))), (2, .int (iI (b))), (3, .int (iI (k)))] → W p l e { frames := 4, cells := 0, slots := 0, locals := 96 } s m [.ref (ad 0), .int (iI (a)), .int (iI (b)), .int (iI (k))].toArray below meth c H locs 0 0 (MQ below (mX D cI cZ ad (some (.int (iI (spMat τ a b k)))) (Sc τ)) [.ref (ad 0), .int (iI (a)), .int (iI (b)), .int (iI (k))].toArray s 0 0 (MA ad)) (F0 m 80 ls []) := by
                intro n80
                induction n80 with
                | zero => intro q x6 x8 x9  ex6 ex8 ex9 hk1 hk2; exact absurd hk2 (by omega)
                | succ n80 ih80 =>
                  intro q x6 x8 x9  ex6 ex8 ex9 hk1 hk2  ls hl
                  subst ex6
                  subst ex8
                  subst ex9
                  have hf1 := ff_1 (lpB τ a.toNat b.toNat i (maS τ a.toNat b.toNat i).1) q
                  have hpf : -1 ≤ pfI (maS τ a.toNat b.toNat i).1 (ff (lpB τ a.toNat b.toNat i (maS τ a.toNat b.toNat i).1) q) ∧ pfI (maS τ a.toNat b.toNat i).1 (ff (lpB τ a.toNat b.toNat i (maS τ a.toNat b.toNat i).1) q) ≤ 20 := by unfold pfI; split <;> omega
                  have hfa := fr_r hI (2 * b.toNat) ((maS τ a.toNat b.toNat i).1 + q)
                  have hfb := fr_r hI (2 * b.toNat) (maS τ a.toNat b.toNat i).1
                  refine lv_iload hx hb dX8_matched_80 (lv_at hl 2 rfl) ?_
                  refine lv_iload hx hb dX8_matched_82 (lv_at hl 5 rfl) ?_
                  refine z_icmp_ge (tgt := 159) hx hb (by omega) (by omega) dX8_matched_84 (by decide) (fun c9 => ?_) (fun c9 => ?_)
                  · have hlp : pfI (maS τ a.toNat b.toNat i).1 (ff (lpB τ a.toNat b.toNat i (maS τ a.toNat b.toNat i).1) q) = lpI τ a.toNat b.toNat i (maS τ a.toNat b.toNat i).1 := by unfold lpI; rw [hM2, show q = M - (maS τ a.toNat b.toNat i).1 by omega]
                    have jn174 : ∀ xj : Int, xj = (((maS τ a.toNat b.toNat (i + 1)).1 : Int)) → ∀ ls : Array Slot, lv_has ls 10 [(6, .int (iI (pfI (maS τ a.toNat b.toNat i).1 (ff (lpB τ a.toNat b.toNat i (maS τ a.toNat b.toNat i).1) q)))), (8, .int (iI (frO τ (2 * b.toNat) ((maS τ a.toNat b.toNat i).1 + q) - frO τ (2 * b.toNat) (maS τ a.toNat b.toNat i).1))), (9, .int (iI (((maS τ a.toNat b.toNat i).1 : Int) + (q : Int)))), (5, .int (iI (((maS τ a.toNat b.toNat i).1 : Int)))), (7, .int (iI ((i : Int)))), (4, .int (iI (τ 8 (2 * b.toNat)))), (0, .ref (ad 0)), (1, .int (iI (a))), (2, .int (iI (b))), (3, .int (iI (k)))] → W p l e { frames := 4, cells := 0, slots := 0, locals := 96 } s m [.ref (ad 0), .int (iI (a)), .int (iI (b)), .int (iI (k))].toArray below meth c H locs 0 0 (MQ below (mX D cI cZ ad (some (.int (iI (spMat τ a b k)))) (Sc τ)) [.ref (ad 0), .int (iI (a)), .int (iI (b)), .int (iI (k))].toArray s 0 0 (MA ad)) (F0 m 174 ls (.int (iI xj) :: [])) := by
                      intro xj ej ls hl
                      subst ej
                      refine lv_istore (lv' := [(5, .int (iI (((maS τ a.toNat b.toNat (i + 1)).1 : Int)))), (6, .int (iI (pfI (maS τ a.toNat b.toNat i).1 (ff (lpB τ a.toNat b.toNat i (maS τ a.toNat b.toNat i).1) q)))), (8, .int (iI (frO τ (2 * b.toNat) ((maS τ a.toNat b.toNat i).1 + q) - frO τ (2 * b.toNat) (maS τ a.toNat b.toNat i).1))), (9, .int (iI (((maS τ a.toNat b.toNat i).1 : Int) + (q : Int)))), (7, .int (iI ((i : Int)))), (4, .int (iI (τ 8 (2 * b.toNat)))), (0, .ref (ad 0)), (1, .int (iI (a))), (2, .int (iI (b))), (3, .int (iI (k)))]) hx hb dX8_matched_174 hl (by decide) rfl (fun ls hl => ?_)
                      refine z_iinc (k := 4) (lv' := [(7, .int (iI ((i : Int) + 1))), (5, .int (iI (((maS τ a.toNat b.toNat (i + 1)).1 : Int)))), (6, .int (iI (pfI (maS τ a.toNat b.toNat i).1 (ff (lpB τ a.toNat b.toNat i (maS τ a.toNat b.toNat i).1) q)))), (8, .int (iI (frO τ (2 * b.toNat) ((maS τ a.toNat b.toNat i).1 + q) - frO τ (2 * b.toNat) (maS τ a.toNat b.toNat i).1))), (9, .int (iI (((maS τ a.toNat b.toNat i).1 : Int) + (q : Int)))), (4, .int (iI (τ 8 (2 * b.toNat)))), (0, .ref (ad 0)), (1, .int (iI (a))), (2, .int (iI (b))), (3, .int (iI (k)))]) hx hb dX8_matched_176 hl rfl (by decide) rfl (fun ls hl => ?_)
                      refine lv_goto (tgt := 64) hx hb dX8_matched_179 (by decide) ?_
                      exact ih64 (i + 1) ((maS τ a.toNat b.toNat (i + 1)).1 : Int) (pfI (maS τ a.toNat b.toNat i).1 (ff (lpB τ a.toNat b.toNat i (maS τ a.toNat b.toNat i).1) q)) ((i : Int) + 1)  rfl hlp (by omega) (by omega) (by omega)  ls (lv_sub hl [1, 2, 0, 5, 6, 7, 8, 9] rfl)
                    refine lv_iload hx hb dX8_matched_159 (lv_at hl 0 rfl) ?_
                    refine z_iconst hx hb dX8_matched_161 ?_
                    refine z_icmp_ne (tgt := 170) hx hb (by omega) (by omega) dX8_matched_162 (by decide) (fun c10 => ?_) (fun c10 => ?_)
                    · refine lv_iload hx hb dX8_matched_170 (lv_at hl 0 rfl) ?_
                      refine z_iconst hx hb dX8_matched_172 ?_
                      refine z_iadd hx hb dX8_matched_173 ?_
                      exact jn174 ((pfI (maS τ a.toNat b.toNat i).1 (ff (lpB τ a.toNat b.toNat i (maS τ a.toNat b.toNat i).1) q)) + 1) (by show _ = (((if lpI τ a.toNat b.toNat i (maS τ a.toNat b.toNat i).1 = -1 then (maS τ a.toNat b.toNat i).1 else (lpI τ a.toNat b.toNat i (maS τ a.toNat b.toNat i).1).toNat + 1 : Nat)) : Int); rw [← hlp]; rw [if_neg c10]; omega) ls (lv_sub hl [0, 1, 2, 3, 4, 5, 6, 7, 8, 9] rfl)
                    · refine lv_iload hx hb dX8_matched_165 (lv_at hl 3 rfl) ?_
                      refine lv_goto (tgt := 174) hx hb dX8_matched_167 (by decide) ?_
                      exact jn174 ((maS τ a.toNat b.toNat i).1 : Int) (by show _ = (((if lpI τ a.toNat b.toNat i (maS τ a.toNat b.toNat i).1 = -1 then (maS τ a.toNat b.toNat i).1 else (lpI τ a.toNat b.toNat i (maS τ a.toNat b.toNat i).1).toNat + 1 : Nat)) : Int); rw [← hlp]; rw [if_pos c10]) ls (lv_sub hl [0, 1, 2, 3, 4, 5, 6, 7, 8, 9] rfl)
                  · refine lv_iload hx hb dX8_matched_87 (lv_at hl 0 rfl) ?_
                    refine z_iconst hx hb dX8_matched_89 ?_
                    refine z_icmp_ne (tgt := 159) hx hb (by omega) (by omega) dX8_matched_90 (by decide) (fun c11 => ?_) (fun c11 => ?_)
                    · have hne : ¬ ff (lpB τ a.toNat b.toNat i (maS τ a.toNat b.toNat i).1) q = -1 := fun hk => c11 (by unfold pfI; rw [if_pos hk])
                      have hlp : pfI (maS τ a.toNat b.toNat i).1 (ff (lpB τ a.toNat b.toNat i (maS τ a.toNat b.toNat i).1) q) = lpI τ a.toNat b.toNat i (maS τ a.toNat b.toNat i).1 := by unfold lpI; rw [hM2, ff_stay (c := q) (by omega) (show q ≤ M - (maS τ a.toNat b.toNat i).1 by omega)]
                      have jn174 : ∀ xj : Int, xj = (((maS τ a.toNat b.toNat (i + 1)).1 : Int)) → ∀ ls : Array Slot, lv_has ls 10 [(6, .int (iI (pfI (maS τ a.toNat b.toNat i).1 (ff (lpB τ a.toNat b.toNat i (maS τ a.toNat b.toNat i).1) q)))), (8, .int (iI (frO τ (2 * b.toNat) ((maS τ a.toNat b.toNat i).1 + q) - frO τ (2 * b.toNat) (maS τ a.toNat b.toNat i).1))), (9, .int (iI (((maS τ a.toNat b.toNat i).1 : Int) + (q : Int)))), (5, .int (iI (((maS τ a.toNat b.toNat i).1 : Int)))), (7, .int (iI ((i : Int)))), (4, .int (iI (τ 8 (2 * b.toNat)))), (0, .ref (ad 0)), (1, .int (iI (a))), (2, .int (iI (b))), (3, .int (iI (k)))] → W p l e { frames := 4, cells := 0, slots := 0, locals := 96 } s m [.ref (ad 0), .int (iI (a)), .int (iI (b)), .int (iI (k))].toArray below meth c H locs 0 0 (MQ below (mX D cI cZ ad (some (.int (iI (spMat τ a b k)))) (Sc τ)) [.ref (ad 0), .int (iI (a)), .int (iI (b)), .int (iI (k))].toArray s 0 0 (MA ad)) (F0 m 174 ls (.int (iI xj) :: [])) := by
                        intro xj ej ls hl
                        subst ej
                        refine lv_istore (lv' := [(5, .int (iI (((maS τ a.toNat b.toNat (i + 1)).1 : Int)))), (6, .int (iI (pfI (maS τ a.toNat b.toNat i).1 (ff (lpB τ a.toNat b.toNat i (maS τ a.toNat b.toNat i).1) q)))), (8, .int (iI (frO τ (2 * b.toNat) ((maS τ a.toNat b.toNat i).1 + q) - frO τ (2 * b.toNat) (maS τ a.toNat b.toNat i).1))), (9, .int (iI (((maS τ a.toNat b.toNat i).1 : Int) + (q : Int)))), (7, .int (iI ((i : Int)))), (4, .int (iI (τ 8 (2 * b.toNat)))), (0, .ref (ad 0)), (1, .int (iI (a))), (2, .int (iI (b))), (3, .int (iI (k)))]) hx hb dX8_matched_174 hl (by decide) rfl (fun ls hl => ?_)
                        refine z_iinc (k := 4) (lv' := [(7, .int (iI ((i : Int) + 1))), (5, .int (iI (((maS τ a.toNat b.toNat (i + 1)).1 : Int)))), (6, .int (iI (pfI (maS τ a.toNat b.toNat i).1 (ff (lpB τ a.toNat b.toNat i (maS τ a.toNat b.toNat i).1) q)))), (8, .int (iI (frO τ (2 * b.toNat) ((maS τ a.toNat b.toNat i).1 + q) - frO τ (2 * b.toNat) (maS τ a.toNat b.toNat i).1))), (9, .int (iI (((maS τ a.toNat b.toNat i).1 : Int) + (q : Int)))), (4, .int (iI (τ 8 (2 * b.toNat)))), (0, .ref (ad 0)), (1, .int (iI (a))), (2, .int (iI (b))), (3, .int (iI (k)))]) hx hb dX8_matched_176 hl rfl (by decide) rfl (fun ls hl => ?_)
                        refine lv_goto (tgt := 64) hx hb dX8_matched_179 (by decide) ?_
                        exact ih64 (i + 1) ((maS τ a.toNat b.toNat (i + 1)).1 : Int) (pfI (maS τ a.toNat b.toNat i).1 (ff (lpB τ a.toNat b.toNat i (maS τ a.toNat b.toNat i).1) q)) ((i : Int) + 1)  rfl hlp (by omega) (by omega) (by omega)  ls (lv_sub hl [1, 2, 0, 5, 6, 7, 8, 9] rfl)
                      refine lv_iload hx hb dX8_matched_159 (lv_at hl 0 rfl) ?_
                      refine z_iconst hx hb dX8_matched_161 ?_
                      refine z_icmp_ne (tgt := 170) hx hb (by omega) (by omega) dX8_matched_162 (by decide) (fun c12 => ?_) (fun c12 => ?_)
                      · refine lv_iload hx hb dX8_matched_170 (lv_at hl 0 rfl) ?_
                        refine z_iconst hx hb dX8_matched_172 ?_
                        refine z_iadd hx hb dX8_matched_173 ?_
                        exact jn174 ((pfI (maS τ a.toNat b.toNat i).1 (ff (lpB τ a.toNat b.toNat i (maS τ a.toNat b.toNat i).1) q)) + 1) (by show _ = (((if lpI τ a.toNat b.toNat i (maS τ a.toNat b.toNat i).1 = -1 then (maS τ a.toNat b.toNat i).1 else (lpI τ a.toNat b.toNat i (maS τ a.toNat b.toNat i).1).toNat + 1 : Nat)) : Int); rw [← hlp]; rw [if_neg c12]; omega) ls (lv_sub hl [0, 1, 2, 3, 4, 5, 6, 7, 8, 9] rfl)
                      · refine lv_iload hx hb dX8_matched_165 (lv_at hl 3 rfl) ?_
                        refine lv_goto (tgt := 174) hx hb dX8_matched_167 (by decide) ?_
                        exact jn174 ((maS τ a.toNat b.toNat i).1 : Int) (by show _ = (((if lpI τ a.toNat b.toNat i (maS τ a.toNat b.toNat i).1 = -1 then (maS τ a.toNat b.toNat i).1 else (lpI τ a.toNat b.toNat i (maS τ a.toNat b.toNat i).1).toNat + 1 : Nat)) : Int); rw [← hlp]; rw [if_pos c12]) ls (lv_sub hl [0, 1, 2, 3, 4, 5, 6, 7, 8, 9] rfl)
                    · have hno : ff (lpB τ a.toNat b.toNat i (maS τ a.toNat b.toNat i).1) q = -1 := Classical.byContradiction fun hk => by unfold pfI at c11; rw [if_neg hk] at c11; omega
                      have ht1 := th_r hI (2 * a.toNat) i
                      have ht2 := th_r hI (2 * b.toNat) ((maS τ a.toNat b.toNat i).1 + q)
                      have hf0 := far_0 (thO τ (2 * a.toNat) i) (thO τ (2 * b.toNat) ((maS τ a.toNat b.toNat i).1 + q))
                      have hfu : farI (thO τ (2 * a.toNat) i) (thO τ (2 * b.toNat) ((maS τ a.toNat b.toNat i).1 + q)) ≤ 40000 := by unfold farI; split <;> omega
                      have hb1 := CS_r hI a.toNat b.toNat (r := N - (i + 1)) (q := M - ((maS τ a.toNat b.toNat i).1 + q + 1)) (by omega) (by omega)
                      have hb2 := CS_r hI a.toNat b.toNat (r := N - i) (q := M - (maS τ a.toNat b.toNat i).1) (by omega) (by omega)
                      refine lv_aload_n hx hb dX8_matched_93 rfl (lv_at hl 6 rfl) ?_
                      refine lv_iload_n hx hb dX8_matched_94 rfl (lv_at hl 7 rfl) ?_
                      refine lv_iload_n hx hb dX8_matched_95 rfl (lv_at hl 8 rfl) ?_
                      refine lv_iload hx hb dX8_matched_96 (lv_at hl 4 rfl) ?_
                      refine lv_iload hx hb dX8_matched_98 (lv_at hl 2 rfl) ?_
                      refine m_call (n := 4) (As := [.int (iI (a)), .int (iI (b)), .int (iI ((i : Int))), .int (iI (((maS τ a.toNat b.toNat i).1 : Int) + (q : Int)))]) (rest := []) hx hb hml hts hown hK hW (c8_mayGo l D cI cZ ad τ2 hR a.toNat a (by omega) b.toNat b (by omega) i (i : Int) (by omega) ((maS τ a.toNat b.toNat i).1 + q) (((maS τ a.toNat b.toNat i).1 : Int) + (q : Int)) (by omega) (by omega) (by omega) (by omega) (by omega)) gX8_matched_X8_mayGo rfl rfl rfl (by decide +kernel) ⟨by decide, by decide⟩ rfl hl.1 rfl (Nat.le_of_ble_eq_true rfl) ⟨Nat.zero_le _, Nat.zero_le _⟩ dX8_matched_100 ?_
                      refine z_if_eqB (tgt := 139) hx hb dX8_matched_103 (by decide) (fun c13 => ?_) (fun c13 => ?_)
                      · rw [cd_off hq.1, cd_off hq.1] at c13
                        have hp2 : pfI (maS τ a.toNat b.toNat i).1 (ff (lpB τ a.toNat b.toNat i (maS τ a.toNat b.toNat i).1) q) = pfI (maS τ a.toNat b.toNat i).1 (ff (lpB τ a.toNat b.toNat i (maS τ a.toNat b.toNat i).1) (q + 1)) := by congr 1; show _ = (if 0 ≤ ff (lpB τ a.toNat b.toNat i (maS τ a.toNat b.toNat i).1) q then ff (lpB τ a.toNat b.toNat i (maS τ a.toNat b.toNat i).1) q else if (lpB τ a.toNat b.toNat i (maS τ a.toNat b.toNat i).1) q then (q : Int) else -1); rw [hno, if_neg (by decide), show (lpB τ a.toNat b.toNat i (maS τ a.toNat b.toNat i).1) q = false from decide_eq_false (fun hk => c13 hk.1)]; rfl
                        refine lv_iload hx hb dX8_matched_139 (lv_at hl 1 rfl) ?_
                        refine lv_aload_n hx hb dX8_matched_141 rfl (lv_at hl 6 rfl) ?_
                        refine z_iconst hx hb dX8_matched_142 ?_
                        refine lv_iload_n hx hb dX8_matched_143 rfl (lv_at hl 8 rfl) ?_
                        refine z_imul hx hb dX8_matched_144 ?_
                        refine lv_iload hx hb dX8_matched_145 (lv_at hl 2 rfl) ?_
                        refine m_call (n := 2) (As := [.int (iI (2 * b)), .int (iI (((maS τ a.toNat b.toNat i).1 : Int) + (q : Int)))]) (rest := [.int (iI (frO τ (2 * b.toNat) ((maS τ a.toNat b.toNat i).1 + q) - frO τ (2 * b.toNat) (maS τ a.toNat b.toNat i).1))]) hx hb hml hts hown hK hW (c8_thick l D cI cZ ad τ2 hR (2 * b.toNat) (2 * b) (by omega) ((maS τ a.toNat b.toNat i).1 + q) (((maS τ a.toNat b.toNat i).1 : Int) + (q : Int)) (by omega) (by omega) (by omega)) gX8_matched_X8_thick rfl rfl rfl (by decide +kernel) ⟨by decide, by decide⟩ rfl hl.1 rfl (Nat.le_of_ble_eq_true rfl) ⟨Nat.zero_le _, Nat.zero_le _⟩ dX8_matched_147 ?_
                        have r14 := th_r hR (2 * b.toNat) ((maS τ a.toNat b.toNat i).1 + q)
                        refine z_top (show thO τ2 (2 * b.toNat) ((maS τ a.toNat b.toNat i).1 + q) = thO τ (2 * b.toNat) ((maS τ a.toNat b.toNat i).1 + q) from th_off hq.1 _ _) ?_
                        refine z_iadd hx hb dX8_matched_150 ?_
                        refine lv_istore (lv' := [(8, .int (iI ((frO τ (2 * b.toNat) ((maS τ a.toNat b.toNat i).1 + q) - frO τ (2 * b.toNat) (maS τ a.toNat b.toNat i).1) + (thO τ (2 * b.toNat) ((maS τ a.toNat b.toNat i).1 + q))))), (6, .int (iI (pfI (maS τ a.toNat b.toNat i).1 (ff (lpB τ a.toNat b.toNat i (maS τ a.toNat b.toNat i).1) q)))), (9, .int (iI (((maS τ a.toNat b.toNat i).1 : Int) + (q : Int)))), (5, .int (iI (((maS τ a.toNat b.toNat i).1 : Int)))), (7, .int (iI ((i : Int)))), (4, .int (iI (τ 8 (2 * b.toNat)))), (0, .ref (ad 0)), (1, .int (iI (a))), (2, .int (iI (b))), (3, .int (iI (k)))]) hx hb dX8_matched_151 hl (by decide) rfl (fun ls hl => ?_)
                        refine z_iinc (k := 2) (lv' := [(9, .int (iI ((((maS τ a.toNat b.toNat i).1 : Int) + (q : Int)) + 1))), (8, .int (iI ((frO τ (2 * b.toNat) ((maS τ a.toNat b.toNat i).1 + q) - frO τ (2 * b.toNat) (maS τ a.toNat b.toNat i).1) + (thO τ (2 * b.toNat) ((maS τ a.toNat b.toNat i).1 + q))))), (6, .int (iI (pfI (maS τ a.toNat b.toNat i).1 (ff (lpB τ a.toNat b.toNat i (maS τ a.toNat b.toNat i).1) q)))), (5, .int (iI (((maS τ a.toNat b.toNat i).1 : Int)))), (7, .int (iI ((i : Int)))), (4, .int (iI (τ 8 (2 * b.toNat)))), (0, .ref (ad 0)), (1, .int (iI (a))), (2, .int (iI (b))), (3, .int (iI (k)))]) hx hb dX8_matched_153 hl rfl (by decide) rfl (fun ls hl => ?_)
                        refine lv_goto (tgt := 80) hx hb dX8_matched_156 (by decide) ?_
                        exact ih80 (q + 1) (pfI (maS τ a.toNat b.toNat i).1 (ff (lpB τ a.toNat b.toNat i (maS τ a.toNat b.toNat i).1) q)) ((frO τ (2 * b.toNat) ((maS τ a.toNat b.toNat i).1 + q) - frO τ (2 * b.toNat) (maS τ a.toNat b.toNat i).1) + (thO τ (2 * b.toNat) ((maS τ a.toNat b.toNat i).1 + q))) ((((maS τ a.toNat b.toNat i).1 : Int) + (q : Int)) + 1)  hp2 (by rw [show (maS τ a.toNat b.toNat i).1 + (q + 1) = (maS τ a.toNat b.toNat i).1 + q + 1 from rfl, fr_s]; omega) (by omega) (by omega) (by omega)  ls (lv_sub hl [2, 1, 0, 3, 4, 5, 6, 7, 8, 9] rfl)
                      · rw [cd_off hq.1, cd_off hq.1] at c13
                        refine lv_iload hx hb dX8_matched_106 (lv_at hl 1 rfl) ?_
                        refine lv_aload_n hx hb dX8_matched_108 rfl (lv_at hl 6 rfl) ?_
                        refine lv_iload_n hx hb dX8_matched_109 rfl (lv_at hl 7 rfl) ?_
                        refine lv_iload_n hx hb dX8_matched_110 rfl (lv_at hl 8 rfl) ?_
                        refine lv_iload hx hb dX8_matched_111 (lv_at hl 4 rfl) ?_
                        refine lv_iload hx hb dX8_matched_113 (lv_at hl 2 rfl) ?_
                        refine m_call (n := 4) (As := [.int (iI (a)), .int (iI (b)), .int (iI ((i : Int))), .int (iI (((maS τ a.toNat b.toNat i).1 : Int) + (q : Int)))]) (rest := [.int (iI (frO τ (2 * b.toNat) ((maS τ a.toNat b.toNat i).1 + q) - frO τ (2 * b.toNat) (maS τ a.toNat b.toNat i).1))]) hx hb hml hts hown hK hW (c8_pairCost l D cI cZ ad τ2 hR a.toNat a (by omega) b.toNat b (by omega) i (i : Int) (by omega) ((maS τ a.toNat b.toNat i).1 + q) (((maS τ a.toNat b.toNat i).1 : Int) + (q : Int)) (by omega) (by omega) (by omega) (by omega) (by omega)) gX8_matched_X8_pairCost rfl rfl rfl (by decide +kernel) ⟨by decide, by decide⟩ rfl hl.1 rfl (Nat.le_of_ble_eq_true rfl) ⟨Nat.zero_le _, Nat.zero_le _⟩ dX8_matched_115 ?_
                        refine z_top (show pcO τ2 a.toNat b.toNat i ((maS τ a.toNat b.toNat i).1 + q) = farI (thO τ (2 * a.toNat) i) (thO τ (2 * b.toNat) ((maS τ a.toNat b.toNat i).1 + q)) + CS τ a.toNat b.toNat (N - (i + 1)) (M - ((maS τ a.toNat b.toNat i).1 + q + 1)) from by have hc := hq.2.2 (N - (i + 1)) (M - ((maS τ a.toNat b.toNat i).1 + q + 1)) (by omega) (by omega); unfold pcO; rw [th_off hq.1, th_off hq.1]; rw [hN2, hM2, show N - (N - (i + 1)) = i + 1 by omega, show M - (M - ((maS τ a.toNat b.toNat i).1 + q + 1)) = (maS τ a.toNat b.toNat i).1 + q + 1 by omega, ← Nat.add_assoc, ← Nat.add_assoc] at hc; rw [show 21 * (i + 1) + ((maS τ a.toNat b.toNat i).1 + q) + 1 = 21 * (i + 1) + (maS τ a.toNat b.toNat i).1 + q + 1 by omega, hc]) ?_
                        refine z_iadd hx hb dX8_matched_118 ?_
                        refine lv_aload_n hx hb dX8_matched_119 rfl (lv_at hl 6 rfl) ?_
                        refine m_get hx hb hts hin8 hown hK hW 26 (by decide) (hts _ (by decide +kernel)) (v := .ref (ad 26)) rfl dX8_matched_120 ?_
                        refine z_bipush hx hb dX8_matched_123 (by decide) ?_
                        refine lv_iload hx hb dX8_matched_125 (lv_at hl 4 rfl) ?_
                        refine z_imul hx hb dX8_matched_127 ?_
                        refine lv_iload hx hb dX8_matched_128 (lv_at hl 3 rfl) ?_
                        refine z_iadd hx hb dX8_matched_130 ?_
                        refine m_ald (d := 26) (j := (21 * i) + ((maS τ a.toNat b.toNat i).1)) hx hb hK hW rfl (by omega) (show (21 * i) + ((maS τ a.toNat b.toNat i).1) < 441 from by omega) dX8_matched_131 ?_
                        have r15 : (-2147483648 : Int) ≤ τ2 26 ((21 * i) + ((maS τ a.toNat b.toNat i).1)) ∧ τ2 26 ((21 * i) + ((maS τ a.toNat b.toNat i).1)) ≤ 2147483647 := hR 26 ((21 * i) + ((maS τ a.toNat b.toNat i).1))
                        refine z_top (show τ2 26 ((21 * i) + ((maS τ a.toNat b.toNat i).1)) = CS τ a.toNat b.toNat (N - i) (M - (maS τ a.toNat b.toNat i).1) from by have hc := hq.2.2 (N - i) (M - (maS τ a.toNat b.toNat i).1) (by omega) (by omega); rw [hN2, hM2, show N - (N - i) = i by omega, show M - (M - (maS τ a.toNat b.toNat i).1) = (maS τ a.toNat b.toNat i).1 by omega] at hc; exact hc) ?_
                        refine z_icmp_ne (tgt := 139) hx hb (by omega) (by omega) dX8_matched_132 (by decide) (fun c16 => ?_) (fun c16 => ?_)
                        · have hp2 : pfI (maS τ a.toNat b.toNat i).1 (ff (lpB τ a.toNat b.toNat i (maS τ a.toNat b.toNat i).1) q) = pfI (maS τ a.toNat b.toNat i).1 (ff (lpB τ a.toNat b.toNat i (maS τ a.toNat b.toNat i).1) (q + 1)) := by congr 1; show _ = (if 0 ≤ ff (lpB τ a.toNat b.toNat i (maS τ a.toNat b.toNat i).1) q then ff (lpB τ a.toNat b.toNat i (maS τ a.toNat b.toNat i).1) q else if (lpB τ a.toNat b.toNat i (maS τ a.toNat b.toNat i).1) q then (q : Int) else -1); rw [hno, if_neg (by decide), show (lpB τ a.toNat b.toNat i (maS τ a.toNat b.toNat i).1) q = false from decide_eq_false (fun hk => c16 (by rw [← hM2, ← hN2]; exact hk.2))]; rfl
                          refine lv_iload hx hb dX8_matched_139 (lv_at hl 1 rfl) ?_
                          refine lv_aload_n hx hb dX8_matched_141 rfl (lv_at hl 6 rfl) ?_
                          refine z_iconst hx hb dX8_matched_142 ?_
                          refine lv_iload_n hx hb dX8_matched_143 rfl (lv_at hl 8 rfl) ?_
                          refine z_imul hx hb dX8_matched_144 ?_
                          refine lv_iload hx hb dX8_matched_145 (lv_at hl 2 rfl) ?_
                          refine m_call (n := 2) (As := [.int (iI (2 * b)), .int (iI (((maS τ a.toNat b.toNat i).1 : Int) + (q : Int)))]) (rest := [.int (iI (frO τ (2 * b.toNat) ((maS τ a.toNat b.toNat i).1 + q) - frO τ (2 * b.toNat) (maS τ a.toNat b.toNat i).1))]) hx hb hml hts hown hK hW (c8_thick l D cI cZ ad τ2 hR (2 * b.toNat) (2 * b) (by omega) ((maS τ a.toNat b.toNat i).1 + q) (((maS τ a.toNat b.toNat i).1 : Int) + (q : Int)) (by omega) (by omega) (by omega)) gX8_matched_X8_thick rfl rfl rfl (by decide +kernel) ⟨by decide, by decide⟩ rfl hl.1 rfl (Nat.le_of_ble_eq_true rfl) ⟨Nat.zero_le _, Nat.zero_le _⟩ dX8_matched_147 ?_
                          have r17 := th_r hR (2 * b.toNat) ((maS τ a.toNat b.toNat i).1 + q)
                          refine z_top (show thO τ2 (2 * b.toNat) ((maS τ a.toNat b.toNat i).1 + q) = thO τ (2 * b.toNat) ((maS τ a.toNat b.toNat i).1 + q) from th_off hq.1 _ _) ?_
                          refine z_iadd hx hb dX8_matched_150 ?_
                          refine lv_istore (lv' := [(8, .int (iI ((frO τ (2 * b.toNat) ((maS τ a.toNat b.toNat i).1 + q) - frO τ (2 * b.toNat) (maS τ a.toNat b.toNat i).1) + (thO τ (2 * b.toNat) ((maS τ a.toNat b.toNat i).1 + q))))), (6, .int (iI (pfI (maS τ a.toNat b.toNat i).1 (ff (lpB τ a.toNat b.toNat i (maS τ a.toNat b.toNat i).1) q)))), (9, .int (iI (((maS τ a.toNat b.toNat i).1 : Int) + (q : Int)))), (5, .int (iI (((maS τ a.toNat b.toNat i).1 : Int)))), (7, .int (iI ((i : Int)))), (4, .int (iI (τ 8 (2 * b.toNat)))), (0, .ref (ad 0)), (1, .int (iI (a))), (2, .int (iI (b))), (3, .int (iI (k)))]) hx hb dX8_matched_151 hl (by decide) rfl (fun ls hl => ?_)
                          refine z_iinc (k := 2) (lv' := [(9, .int (iI ((((maS τ a.toNat b.toNat i).1 : Int) + (q : Int)) + 1))), (8, .int (iI ((frO τ (2 * b.toNat) ((maS τ a.toNat b.toNat i).1 + q) - frO τ (2 * b.toNat) (maS τ a.toNat b.toNat i).1) + (thO τ (2 * b.toNat) ((maS τ a.toNat b.toNat i).1 + q))))), (6, .int (iI (pfI (maS τ a.toNat b.toNat i).1 (ff (lpB τ a.toNat b.toNat i (maS τ a.toNat b.toNat i).1) q)))), (5, .int (iI (((maS τ a.toNat b.toNat i).1 : Int)))), (7, .int (iI ((i : Int)))), (4, .int (iI (τ 8 (2 * b.toNat)))), (0, .ref (ad 0)), (1, .int (iI (a))), (2, .int (iI (b))), (3, .int (iI (k)))]) hx hb dX8_matched_153 hl rfl (by decide) rfl (fun ls hl => ?_)
                          refine lv_goto (tgt := 80) hx hb dX8_matched_156 (by decide) ?_
                          exact ih80 (q + 1) (pfI (maS τ a.toNat b.toNat i).1 (ff (lpB τ a.toNat b.toNat i (maS τ a.toNat b.toNat i).1) q)) ((frO τ (2 * b.toNat) ((maS τ a.toNat b.toNat i).1 + q) - frO τ (2 * b.toNat) (maS τ a.toNat b.toNat i).1) + (thO τ (2 * b.toNat) ((maS τ a.toNat b.toNat i).1 + q))) ((((maS τ a.toNat b.toNat i).1 : Int) + (q : Int)) + 1)  hp2 (by rw [show (maS τ a.toNat b.toNat i).1 + (q + 1) = (maS τ a.toNat b.toNat i).1 + q + 1 from rfl, fr_s]; omega) (by omega) (by omega) (by omega)  ls (lv_sub hl [2, 1, 0, 3, 4, 5, 6, 7, 8, 9] rfl)
                        · have hp2 : ((maS τ a.toNat b.toNat i).1 : Int) + (q : Int) = pfI (maS τ a.toNat b.toNat i).1 (ff (lpB τ a.toNat b.toNat i (maS τ a.toNat b.toNat i).1) (q + 1)) := by have hff : ff (lpB τ a.toNat b.toNat i (maS τ a.toNat b.toNat i).1) (q + 1) = q := (by show (if 0 ≤ ff (lpB τ a.toNat b.toNat i (maS τ a.toNat b.toNat i).1) q then ff (lpB τ a.toNat b.toNat i (maS τ a.toNat b.toNat i).1) q else if (lpB τ a.toNat b.toNat i (maS τ a.toNat b.toNat i).1) q then (q : Int) else -1) = q; rw [hno, if_neg (by decide), show (lpB τ a.toNat b.toNat i (maS τ a.toNat b.toNat i).1) q = true from decide_eq_true ⟨c13, by rw [hM2, hN2]; exact c16⟩]; rfl); rw [hff]; unfold pfI; rw [if_neg (by omega)]
                          refine lv_iload hx hb dX8_matched_135 (lv_at hl 2 rfl) ?_
                          refine lv_istore (lv' := [(6, .int (iI (((maS τ a.toNat b.toNat i).1 : Int) + (q : Int)))), (8, .int (iI (frO τ (2 * b.toNat) ((maS τ a.toNat b.toNat i).1 + q) - frO τ (2 * b.toNat) (maS τ a.toNat b.toNat i).1))), (9, .int (iI (((maS τ a.toNat b.toNat i).1 : Int) + (q : Int)))), (5, .int (iI (((maS τ a.toNat b.toNat i).1 : Int)))), (7, .int (iI ((i : Int)))), (4, .int (iI (τ 8 (2 * b.toNat)))), (0, .ref (ad 0)), (1, .int (iI (a))), (2, .int (iI (b))), (3, .int (iI (k)))]) hx hb dX8_matched_137 hl (by decide) rfl (fun ls hl => ?_)
                          refine lv_iload hx hb dX8_matched_139 (lv_at hl 1 rfl) ?_
                          refine lv_aload_n hx hb dX8_matched_141 rfl (lv_at hl 6 rfl) ?_
                          refine z_iconst hx hb dX8_matched_142 ?_
                          refine lv_iload_n hx hb dX8_matched_143 rfl (lv_at hl 8 rfl) ?_
                          refine z_imul hx hb dX8_matched_144 ?_
                          refine lv_iload hx hb dX8_matched_145 (lv_at hl 2 rfl) ?_
                          refine m_call (n := 2) (As := [.int (iI (2 * b)), .int (iI (((maS τ a.toNat b.toNat i).1 : Int) + (q : Int)))]) (rest := [.int (iI (frO τ (2 * b.toNat) ((maS τ a.toNat b.toNat i).1 + q) - frO τ (2 * b.toNat) (maS τ a.toNat b.toNat i).1))]) hx hb hml hts hown hK hW (c8_thick l D cI cZ ad τ2 hR (2 * b.toNat) (2 * b) (by omega) ((maS τ a.toNat b.toNat i).1 + q) (((maS τ a.toNat b.toNat i).1 : Int) + (q : Int)) (by omega) (by omega) (by omega)) gX8_matched_X8_thick rfl rfl rfl (by decide +kernel) ⟨by decide, by decide⟩ rfl hl.1 rfl (Nat.le_of_ble_eq_true rfl) ⟨Nat.zero_le _, Nat.zero_le _⟩ dX8_matched_147 ?_
                          have r18 := th_r hR (2 * b.toNat) ((maS τ a.toNat b.toNat i).1 + q)
                          refine z_top (show thO τ2 (2 * b.toNat) ((maS τ a.toNat b.toNat i).1 + q) = thO τ (2 * b.toNat) ((maS τ a.toNat b.toNat i).1 + q) from th_off hq.1 _ _) ?_
                          refine z_iadd hx hb dX8_matched_150 ?_
                          refine lv_istore (lv' := [(8, .int (iI ((frO τ (2 * b.toNat) ((maS τ a.toNat b.toNat i).1 + q) - frO τ (2 * b.toNat) (maS τ a.toNat b.toNat i).1) + (thO τ (2 * b.toNat) ((maS τ a.toNat b.toNat i).1 + q))))), (6, .int (iI (((maS τ a.toNat b.toNat i).1 : Int) + (q : Int)))), (9, .int (iI (((maS τ a.toNat b.toNat i).1 : Int) + (q : Int)))), (5, .int (iI (((maS τ a.toNat b.toNat i).1 : Int)))), (7, .int (iI ((i : Int)))), (4, .int (iI (τ 8 (2 * b.toNat)))), (0, .ref (ad 0)), (1, .int (iI (a))), (2, .int (iI (b))), (3, .int (iI (k)))]) hx hb dX8_matched_151 hl (by decide) rfl (fun ls hl => ?_)
                          refine z_iinc (k := 2) (lv' := [(9, .int (iI ((((maS τ a.toNat b.toNat i).1 : Int) + (q : Int)) + 1))), (8, .int (iI ((frO τ (2 * b.toNat) ((maS τ a.toNat b.toNat i).1 + q) - frO τ (2 * b.toNat) (maS τ a.toNat b.toNat i).1) + (thO τ (2 * b.toNat) ((maS τ a.toNat b.toNat i).1 + q))))), (6, .int (iI (((maS τ a.toNat b.toNat i).1 : Int) + (q : Int)))), (5, .int (iI (((maS τ a.toNat b.toNat i).1 : Int)))), (7, .int (iI ((i : Int)))), (4, .int (iI (τ 8 (2 * b.toNat)))), (0, .ref (ad 0)), (1, .int (iI (a))), (2, .int (iI (b))), (3, .int (iI (k)))]) hx hb dX8_matched_153 hl rfl (by decide) rfl (fun ls hl => ?_)
                          refine lv_goto (tgt := 80) hx hb dX8_matched_156 (by decide) ?_
                          exact ih80 (q + 1) (((maS τ a.toNat b.toNat i).1 : Int) + (q : Int)) ((frO τ (2 * b.toNat) ((maS τ a.toNat b.toNat i).1 + q) - frO τ (2 * b.toNat) (maS τ a.toNat b.toNat i).1) + (thO τ (2 * b.toNat) ((maS τ a.toNat b.toNat i).1 + q))) ((((maS τ a.toNat b.toNat i).1 : Int) + (q : Int)) + 1)  hp2 (by rw [show (maS τ a.toNat b.toNat i).1 + (q + 1) = (maS τ a.toNat b.toNat i).1 + q + 1 from rfl, fr_s]; omega) (by omega) (by omega) (by omega)  ls (lv_sub hl [2, 1, 0, 3, 4, 5, 6, 7, 8, 9] rfl)
              exact lp80 ((M - (maS τ a.toNat b.toNat i).1) + 1) 0 (-1) 0 ((maS τ a.toNat b.toNat i).1 : Int)  rfl (by rw [Nat.add_zero, Int.sub_self]) (by omega) (by omega) (by omega)  ls (lv_sub hl [2, 1, 0, 3, 4, 5, 6, 7, 8, 9] rfl)
        exact lp64 ((k.toNat + 1) + 1) 0 0 (-1) 0  rfl rfl (by omega) (by omega) (by omega)  ls (lv_sub hl [2, 1, 0, 3, 4, 5, 6, 7] rfl)
      · refine z_bipush hx hb dX8_matched_36 (by decide) ?_
        exact m_xret hx hb hr hlocks (⟨Sc.rf hI, hW⟩) hS hz (by unfold spMat; repeat (first | rw [if_pos (by first | assumption | omega)] | rw [if_neg (by first | assumption | omega | (intro hk; exact hk (by assumption)))])) dX8_matched_38
