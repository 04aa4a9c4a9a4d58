theorem z_tabIn {p : Program} {l : Launch} {e : Env} {R : Room} {s : State} {m : MethodId} {args : Array Value} {below : List Frame} {meth : Method} {c : Code} {H : Heap} {locs : List Loc} {cells slots : Nat} {Q : State → Prop} {cc : ByteArray} {pc : Nat} {ls : Array Slot} {rest : List Value} (hexec : p.tables.exec = Jvm.exec) (hb : c.code = cc) {a dflt lo hi : Int} {offs : Array Int} {len : Nat} {off : Int} {tgt k : Nat} (hr : I32 a) (hdg : decode cc pc = .ok (.tableswitch dflt lo hi offs, len)) (ha : a = lo + k) (hh : a ≤ hi) (ho : offs[k]? = some off) (ht : (pc : Int) + off = (tgt : Int))
    (kk : W p l e R s m args below meth c H locs cells slots Q (F0 m tgt ls rest)) : W p l e R s m args below meth c H locs cells slots Q (F0 m pc ls (.int (iI a) :: rest)) :=
  lv_tableIn hexec hb hdg (by rw [iI_toInt hr]; omega) (by rw [iI_toInt hr]; omega) (by rw [iI_toInt hr, show (a - lo).toNat = k by omega]; exact ho) ht kk
theorem z_tabOut {p : Program} {l : Launch} {e : Env} {R : Room} {s : State} {m : MethodId} {args : Array Value} {below : List Frame} {meth : Method} {c : Code} {H : Heap} {locs : List Loc} {cells slots : Nat} {Q : State → Prop} {cc : ByteArray} {pc : Nat} {ls : Array Slot} {rest : List Value} (hexec : p.tables.exec = Jvm.exec) (hb : c.code = cc) {a dflt lo hi : Int} {offs : Array Int} {len : Nat} {tgt : Nat} (hr : I32 a) (hdg : decode cc pc = .ok (.tableswitch dflt lo hi offs, len)) (ha : a < lo ∨ hi < a) (ht : (pc : Int) + dflt = (tgt : Int))
    (kk : W p l e R s m args below meth c H locs cells slots Q (F0 m tgt ls rest)) : W p l e R s m args below meth c H locs cells slots Q (F0 m pc ls (.int (iI a) :: rest)) :=
  lv_tableOut hexec hb hdg (by rw [iI_toInt hr]; exact ha) ht kk
def als (f : Nat → Bool) : Nat → Bool
  | 0 => true
  | n + 1 => als f n && f n
def hrK (τ : Tau) (b k : Nat) : Bool := exs (fun q => decide (¬ τ 23 (16 * b + q) = 0)) k
theorem hrK_s (τ : Tau) (b k : Nat) : hrK τ b (k + 1) = (hrK τ b k || decide (¬ τ 23 (16 * b + k) = 0)) := rfl
def hrO (τ : Tau) (b : Nat) : Bool := hrK τ b (τ 19 b).toNat
def plB (τ : Tau) (b : Nat) (x : Int) (k : Nat) : Bool := decide (τ 20 (16 * b + k) = 0 ∧ τ 21 (16 * b + k) = x)
def plO (τ : Tau) (b : Nat) (x : Int) : Int := ff (plB τ b x) (τ 19 b).toNat
theorem pl_r {τ : Tau} (hR : Rng τ) (b : Nat) (x : Int) : -1 ≤ plO τ b x ∧ plO τ b x ≤ 15 := by
  have h1 := ff_r (plB τ b x) (τ 19 b).toNat
  have h2 : (0 : Int) ≤ τ 19 b ∧ τ 19 b ≤ 16 := hR 19 b
  unfold plO
  omega
def tdK (τ : Tau) (b k : Nat) : Bool := decide (0 < τ 19 b) && als (fun q => decide (¬ τ 23 (16 * b + q) = 0)) k
theorem tdK_s (τ : Tau) (b k : Nat) : tdK τ b (k + 1) = (tdK τ b k && decide (¬ τ 23 (16 * b + k) = 0)) := by simp [tdK, als, Bool.and_assoc]
def tdO (τ : Tau) (b : Nat) : Bool := tdK τ b (τ 19 b).toNat
def loO (τ : Tau) (q : Nat) : Int := if τ 24 q < 0 then 0 else τ 24 q
def upO (τ : Tau) (q : Nat) : Int := if τ 24 q < 0 then -τ 24 q - 1 else τ 24 q
theorem lo_r {τ : Tau} (hR : Rng τ) (q : Nat) : 0 ≤ loO τ q ∧ loO τ q ≤ 100000 := by
  have h2 : (-1000 : Int) ≤ τ 24 q ∧ τ 24 q ≤ 100000 := hR 24 q
  unfold loO
  split <;> omega
theorem up_r {τ : Tau} (hR : Rng τ) (q : Nat) : 0 ≤ upO τ q ∧ upO τ q ≤ 100000 := by
  have h2 : (-1000 : Int) ≤ τ 24 q ∧ τ 24 q ≤ 100000 := hR 24 q
  unfold upO
  split <;> omega
def farI (a b : Int) : Int := if a < b then b - a else a - b
def mxI (a b : Int) : Int := if b < a then a else b
abbrev gdP (τ : Tau) (b q : Nat) : Prop := (τ 20 (16 * b + q) = 1 → farI (loO τ (16 * b + q)) (τ 21 (16 * b + q)) ≤ τ 22 (16 * b + q) ∧ farI (upO τ (16 * b + q)) (τ 21 (16 * b + q)) ≤ τ 22 (16 * b + q)) ∧ (τ 20 (16 * b + q) = 2 → upO τ (16 * b + q) ≤ τ 25 0) ∧ (τ 20 (16 * b + q) = 3 → 1000 * farI (upO τ (16 * b + q)) (upO τ (16 * b + (τ 21 (16 * b + q)).toNat)) ≤ τ 25 1 * mxI (upO τ (16 * b + q)) (upO τ (16 * b + (τ 21 (16 * b + q)).toNat)))
def gdB (τ : Tau) (b q : Nat) : Bool := decide (gdP τ b q)
theorem far_r {a b : Int} (ha : 0 ≤ a ∧ a ≤ 100000) (hb : 0 ≤ b ∧ b ≤ 100000) : 0 ≤ farI a b ∧ farI a b ≤ 100000 := by unfold farI; split <;> omega
theorem mx_r {a b : Int} (ha : 0 ≤ a ∧ a ≤ 100000) (hb : 0 ≤ b ∧ b ≤ 100000) : 0 ≤ mxI a b ∧ mxI a b ≤ 100000 := by unfold mxI; split <;> omega
theorem mul_r {a b : Int} (ha : 0 ≤ a ∧ a ≤ 1000) (hb : 0 ≤ b ∧ b ≤ 100000) : 0 ≤ a * b ∧ a * b ≤ 100000000 := by
  have h1 : 0 ≤ a * b := Int.mul_nonneg ha.1 hb.1
  have h2 : a * b ≤ 1000 * b := Int.mul_le_mul_of_nonneg_right ha.2 hb.1
  omega
def ftO (τ : Tau) (b : Nat) : Int := ff (fun q => !gdB τ b q) (τ 19 b).toNat
theorem ft_r {τ : Tau} (hR : Rng τ) (b : Nat) : -1 ≤ ftO τ b ∧ ftO τ b ≤ 15 := by
  have h1 := ff_r (fun q => !gdB τ b q) (τ 19 b).toNat
  have h2 : (0 : Int) ≤ τ 19 b ∧ τ 19 b ≤ 16 := hR 19 b
  unfold ftO
  omega
def snB (τ : Tau) (b : Nat) : Bool := tdO τ b && decide (ftO τ b = -1)
abbrev WhP (τ : Tau) (b : Nat) : Prop := ∀ q : Nat, q < 16 → (q : Int) < τ 19 b → τ 20 (16 * b + q) = 3 → τ 21 (16 * b + q) < q
theorem Inv.wh {τ : Tau} (h : Inv τ) (b : Nat) : WhP τ b := fun q h1 h2 h3 => (h.2.2.2.1 b q h1 h2).1 h3
def tnT (τ : Tau) (b q : Nat) : Tau := tu (tu τ 24 (16 * b + q) (τ 24 (16 * b + q + 1))) 24 (16 * b + q + 1) (τ 24 (16 * b + q))
theorem tn_n {τ : Tau} {b q d : Nat} (h : d ≠ 24) : tnT τ b q d = τ d := by unfold tnT; rw [tu_n h, tu_n h]
theorem tn_tn (τ : Tau) (b q : Nat) : tnT (tnT τ b q) b q = τ := by
  funext d i
  by_cases hd : d = 24
  · subst hd
    by_cases h1 : i = 16 * b + q + 1
    · subst h1
      unfold tnT
      rw [tu_s, tu_c, fu_n (by omega), tu_s]
    · by_cases h2 : i = 16 * b + q
      · subst h2
        unfold tnT
        rw [tu_c, fu_n (by omega), tu_s, tu_s]
      · unfold tnT
        rw [tu_c, fu_n h1, tu_c, fu_n h2, tu_c, fu_n h1, tu_c, fu_n h2]
  · rw [tn_n hd, tn_n hd]
theorem tn_R {τ : Tau} {b q : Nat} (h : Rng τ) : Rng (tnT τ b q) := (h.tu (h 24 _).1 (h 24 _).2).tu (h 24 _).1 (h 24 _).2
theorem tn_wh {τ : Tau} {b q : Nat} (h : WhP τ b) : WhP (tnT τ b q) b := by
  intro j h1 h2 h3
  rw [tn_n (by decide)] at h2 h3
  rw [tn_n (by decide)]
  exact h j h1 h2 h3
def swB (τ : Tau) (b k : Nat) : Bool := decide (ftO (tnT τ b k) b = -1)
def swO (τ : Tau) (b : Nat) : Int := ff (swB τ b) ((τ 19 b).toNat - 1)
def gaB (τ : Tau) (x : Int) (b : Nat) : Bool := decide (¬ plO τ b x = -1) && snB τ b
def gaI (τ : Tau) (x : Int) : Int := ff (gaB τ x) (τ 18 0).toNat
def gaO (τ : Tau) (x : Int) : Int := if gaI τ x = -1 then -1 else 16 * gaI τ x + plO τ (gaI τ x).toNat x
theorem ga_r {τ : Tau} (hR : Rng τ) (x : Int) : -1 ≤ gaO τ x ∧ gaO τ x ≤ 95 := by
  have h1 := ff_r (gaB τ x) (τ 18 0).toNat
  have h2 : (0 : Int) ≤ τ 18 0 ∧ τ 18 0 ≤ 6 := hR 18 0
  have h3 := pl_r hR (gaI τ x).toNat x
  have h4 : -1 ≤ gaI τ x ∧ gaI τ x ≤ 5 := by unfold gaI; omega
  unfold gaO
  split
  · omega
  · have h5 : 0 ≤ gaI τ x := by omega
    omega
abbrev qtT (τ : Tau) (j : Nat) : Tau := tu (tu τ 16 j (τ 16 j - 1)) 17 0 (τ 17 0 + 1)
abbrev adT (τ : Tau) (b : Nat) (k o f : Int) : Tau := tu (tu (tu (tu τ 20 (16 * b + (τ 19 b).toNat) k) 21 (16 * b + (τ 19 b).toNat) o) 22 (16 * b + (τ 19 b).toNat) f) 19 b (τ 19 b + 1)
theorem tk_sm {f : Nat → Int} (h0 : ∀ k, f k ≤ 4) {j : Nat} (hj : f j ≤ 3) : ∀ n : Nat, j < n → sm f n ≤ 4 * n - 1
  | 0, h => absurd h (Nat.not_lt_zero j)
  | n + 1, h => by
    rw [sm_s]
    have h1 := h0 n
    rcases Nat.lt_or_ge j n with q | q
    · have := tk_sm h0 hj n q
      omega
    · have e : j = n := by omega
      subst e
      have h2 : sm f j ≤ 4 * j := by
        have h3 := sm_rng (f := fun k => -f k) (lo := -4) (hi := 4 + 2147483647) (n := j)
        have : ∀ n : Nat, sm f n ≤ 4 * n := by
          intro n
          induction n with
          | zero => simp [sm]
          | succ n ih => rw [sm_s]; have := h0 n; omega
        exact this j
      omega
theorem Inv.tk {τ : Tau} (h : Inv τ) {j : Nat} (hj : (j : Int) < τ 12 0) (hq : ¬ τ 16 j = 0) : 0 ≤ τ 17 0 ∧ τ 17 0 < 120 := by
  have h1 : (0 : Int) ≤ τ 12 0 ∧ τ 12 0 ≤ 30 := h.1 12 0
  have h2 : (0 : Int) ≤ τ 17 0 ∧ τ 17 0 ≤ 120 := h.1 17 0
  have h3 : (0 : Int) ≤ τ 16 j ∧ τ 16 j ≤ 4 := h.1 16 j
  have h4 := tk_sm (f := fun s => 4 - τ 16 s) (fun k => by
    have h5 : (0 : Int) ≤ τ 16 k ∧ τ 16 k ≤ 4 := h.1 16 k
    omega) (j := j) (by show 4 - τ 16 j ≤ 3; omega) (τ 12 0).toNat (by omega)
  rw [← h.2.2.1] at h4
  omega

set_option maxHeartbeats 4000000 in
set_option maxRecDepth 100000 in
theorem c8_isSample (l : Launch) (D : va_G) (cI cZ : ClassId) (ad : Nat → Nat) (τ : Tau) (hI : Rng τ) (a : Int) (h_a : I32 a)  : Met l yX8_isSample wsX8_isSample { frames := 1, cells := 0, slots := 0, locals := 25 } (mPc D cI cZ ad τ [.ref (ad 0), .int (iI (a))]) (rS (bI (0 ≤ a ∧ a < τ 12 0))) 0 0 NoA := by
  refine m_start (by decide) rfl (Nat.le_of_ble_eq_true rfl) ?_
  intro p e s m below meth c hx hb hr hlocks hml hts hown hW hK ls hl
  have hin8 : ∀ w ∈ wsX80, w ∈ wsX8_isSample := by decide +kernel
  have hl : lv_has ls 2 [(0, .ref (ad 0)), (1, .int (iI (a)))] := hl
  refine lv_iload_n hx hb dX8_isSample_0 rfl (lv_at hl 1 rfl) ?_
  refine z_i2l hx hb (by omega) dX8_isSample_1 ?_
  refine z_lconst (n := 0) hx hb (by decide) dX8_isSample_2 ?_
  refine lv_aload_n hx hb dX8_isSample_3 rfl (lv_at hl 0 rfl) ?_
  refine m_get hx hb hts hin8 hown hK hW 12 (by decide) (hts _ (by decide +kernel)) (v := .int (iI (τ 12 0))) rfl dX8_isSample_4 ?_
  have r1 : (0 : Int) ≤ τ 12 0 ∧ τ 12 0 ≤ 30 := hI 12 0
  refine z_iconst hx hb dX8_isSample_7 ?_
  refine z_isub hx hb dX8_isSample_8 ?_
  refine z_i2l hx hb (by omega) dX8_isSample_9 ?_
  refine s_call (n := 3) (As := [.long (lL (a)), .long (lL (0)), .long (lL ((τ 12 0) - 1))]) (rest := []) hx hb hml hts hown (c8_in l a (by omega) 0 (by omega) ((τ 12 0) - 1) (by omega)) gX8_isSample_X8_in rfl rfl rfl (by decide +kernel) ⟨by decide, by decide⟩ rfl hl.1 rfl (Nat.le_of_ble_eq_true rfl) ⟨Nat.zero_le _, Nat.zero_le _⟩ dX8_isSample_10 ?_
  exact s_zret hx hb hr hlocks (bI_c (by omega)) dX8_isSample_13
set_option maxHeartbeats 4000000 in
set_option maxRecDepth 100000 in
theorem c8_isBatch (l : Launch) (D : va_G) (cI cZ : ClassId) (ad : Nat → Nat) (τ : Tau) (hI : Rng τ) (a : Int) (h_a : I32 a)  : Met l yX8_isBatch wsX8_isBatch { frames := 1, cells := 0, slots := 0, locals := 25 } (mPc D cI cZ ad τ [.ref (ad 0), .int (iI (a))]) (rS (bI (0 ≤ a ∧ a < τ 18 0))) 0 0 NoA := by
  refine m_start (by decide) rfl (Nat.le_of_ble_eq_true rfl) ?_
  intro p e s m below meth c hx hb hr hlocks hml hts hown hW hK ls hl
  have hin8 : ∀ w ∈ wsX80, w ∈ wsX8_isBatch := by decide +kernel
  have hl : lv_has ls 2 [(0, .ref (ad 0)), (1, .int (iI (a)))] := hl
  refine lv_iload_n hx hb dX8_isBatch_0 rfl (lv_at hl 1 rfl) ?_
  refine z_i2l hx hb (by omega) dX8_isBatch_1 ?_
  refine z_lconst (n := 0) hx hb (by decide) dX8_isBatch_2 ?_
  refine lv_aload_n hx hb dX8_isBatch_3 rfl (lv_at hl 0 rfl) ?_
  refine m_get hx hb hts hin8 hown hK hW 18 (by decide) (hts _ (by decide +kernel)) (v := .int (iI (τ 18 0))) rfl dX8_isBatch_4 ?_
  have r1 : (0 : Int) ≤ τ 18 0 ∧ τ 18 0 ≤ 6 := hI 18 0
  refine z_iconst hx hb dX8_isBatch_7 ?_
  refine z_isub hx hb dX8_isBatch_8 ?_
  refine z_i2l hx hb (by omega) dX8_isBatch_9 ?_
  refine s_call (n := 3) (As := [.long (lL (a)), .long (lL (0)), .long (lL ((τ 18 0) - 1))]) (rest := []) hx hb hml hts hown (c8_in l a (by omega) 0 (by omega) ((τ 18 0) - 1) (by omega)) gX8_isBatch_X8_in rfl rfl rfl (by decide +kernel) ⟨by decide, by decide⟩ rfl hl.1 rfl (Nat.le_of_ble_eq_true rfl) ⟨Nat.zero_le _, Nat.zero_le _⟩ dX8_isBatch_10 ?_
  exact s_zret hx hb hr hlocks (bI_c (by omega)) dX8_isBatch_13
set_option maxHeartbeats 4000000 in
set_option maxRecDepth 100000 in
theorem c8_isPlace (l : Launch) (D : va_G) (cI cZ : ClassId) (ad : Nat → Nat) (τ : Tau) (hI : Rng τ) (a : Int) (h_a : I32 a) (b : Int) (h_b : I32 b)  : Met l yX8_isPlace wsX8_isPlace { frames := 2, cells := 0, slots := 0, locals := 46 } (mPc D cI cZ ad τ [.ref (ad 0), .int (iI (a)), .int (iI (b))]) (rS (bI ((0 ≤ a ∧ a < τ 18 0) ∧ (0 ≤ b ∧ b < τ 19 a.toNat)))) 0 0 NoA := by
  refine m_start (by decide) rfl (Nat.le_of_ble_eq_true rfl) ?_
  intro p e s m below meth c hx hb hr hlocks hml hts hown hW hK ls hl
  have hin8 : ∀ w ∈ wsX80, w ∈ wsX8_isPlace := by decide +kernel
  have hl : lv_has ls 3 [(0, .ref (ad 0)), (1, .int (iI (a))), (2, .int (iI (b)))] := hl
  refine lv_aload_n hx hb dX8_isPlace_0 rfl (lv_at hl 0 rfl) ?_
  refine lv_iload_n hx hb dX8_isPlace_1 rfl (lv_at hl 1 rfl) ?_
  refine m_call (n := 1) (As := [.int (iI (a))]) (rest := []) hx hb hml hts hown hK hW (c8_isBatch l D cI cZ ad τ hI a (by omega)) gX8_isPlace_X8_isBatch rfl rfl rfl (by decide +kernel) ⟨by decide, by decide⟩ rfl hl.1 rfl (Nat.le_of_ble_eq_true rfl) ⟨Nat.zero_le _, Nat.zero_le _⟩ dX8_isPlace_2 ?_
  have r1 := (show (0 : Int) ≤ τ 18 0 ∧ τ 18 0 ≤ 6 from hI 18 0)
  refine z_if_eqB (tgt := 30) hx hb dX8_isPlace_5 (by decide) (fun c2 => ?_) (fun c2 => ?_)
  · refine z_iconst hx hb dX8_isPlace_30 ?_
    exact s_zret hx hb hr hlocks ((bI_f (by omega)).symm) dX8_isPlace_31
  · refine lv_iload_n hx hb dX8_isPlace_8 rfl (lv_at hl 2 rfl) ?_
    refine z_i2l hx hb (by omega) dX8_isPlace_9 ?_
    refine z_lconst (n := 0) hx hb (by decide) dX8_isPlace_10 ?_
    refine lv_aload_n hx hb dX8_isPlace_11 rfl (lv_at hl 0 rfl) ?_
    refine m_get hx hb hts hin8 hown hK hW 19 (by decide) (hts _ (by decide +kernel)) (v := .ref (ad 19)) rfl dX8_isPlace_12 ?_
    refine lv_iload_n hx hb dX8_isPlace_15 rfl (lv_at hl 1 rfl) ?_
    refine m_ald (d := 19) (j := a.toNat) hx hb hK hW rfl (by omega) (show a.toNat < 6 from by omega) dX8_isPlace_16 ?_
    have r3 : (0 : Int) ≤ τ 19 a.toNat ∧ τ 19 a.toNat ≤ 16 := hI 19 a.toNat
    refine z_iconst hx hb dX8_isPlace_17 ?_
    refine z_isub hx hb dX8_isPlace_18 ?_
    refine z_i2l hx hb (by omega) dX8_isPlace_19 ?_
    refine s_call (n := 3) (As := [.long (lL (b)), .long (lL (0)), .long (lL ((τ 19 a.toNat) - 1))]) (rest := []) hx hb hml hts hown (c8_in l b (by omega) 0 (by omega) ((τ 19 a.toNat) - 1) (by omega)) gX8_isPlace_X8_in rfl rfl rfl (by decide +kernel) ⟨by decide, by decide⟩ rfl hl.1 rfl (Nat.le_of_ble_eq_true rfl) ⟨Nat.zero_le _, Nat.zero_le _⟩ dX8_isPlace_20 ?_
    refine z_if_eqB (tgt := 30) hx hb dX8_isPlace_23 (by decide) (fun c4 => ?_) (fun c4 => ?_)
    · refine z_iconst hx hb dX8_isPlace_30 ?_
      exact s_zret hx hb hr hlocks ((bI_f (by omega)).symm) dX8_isPlace_31
    · refine z_iconst hx hb dX8_isPlace_26 ?_
      refine lv_goto (tgt := 31) hx hb dX8_isPlace_27 (by decide) ?_
      exact s_zret hx hb hr hlocks ((bI_t (by omega)).symm) dX8_isPlace_31
def spLeft (τ : Tau) (a : Int) : Int := if 0 ≤ a ∧ a < τ 12 0 then τ 16 a.toNat else -101
set_option maxHeartbeats 4000000 in
set_option maxRecDepth 100000 in
theorem c8_left (l : Launch) (D : va_G) (cI cZ : ClassId) (ad : Nat → Nat) (τ : Tau) (hI : Rng τ) (a : Int) (h_a : I32 a)  : Met l yX8_left wsX8_left { frames := 2, cells := 0, slots := 0, locals := 46 } (mPc D cI cZ ad τ [.ref (ad 0), .int (iI (a))]) (rS (spLeft τ a)) 0 0 NoA := by
  refine m_start (by decide) rfl (Nat.le_of_ble_eq_true rfl) ?_
  intro p e s m below meth c hx hb hr hlocks hml hts hown hW hK ls hl
  have hin8 : ∀ w ∈ wsX80, w ∈ wsX8_left := by decide +kernel
  have hl : lv_has ls 2 [(0, .ref (ad 0)), (1, .int (iI (a)))] := hl
  refine lv_aload_n hx hb dX8_left_0 rfl (lv_at hl 0 rfl) ?_
  refine lv_iload_n hx hb dX8_left_1 rfl (lv_at hl 1 rfl) ?_
  refine m_call (n := 1) (As := [.int (iI (a))]) (rest := []) hx hb hml hts hown hK hW (c8_isSample l D cI cZ ad τ hI a (by omega)) gX8_left_X8_isSample rfl rfl rfl (by decide +kernel) ⟨by decide, by decide⟩ rfl hl.1 rfl (Nat.le_of_ble_eq_true rfl) ⟨Nat.zero_le _, Nat.zero_le _⟩ dX8_left_2 ?_
  have r1 := (show (0 : Int) ≤ τ 12 0 ∧ τ 12 0 ≤ 30 from hI 12 0)
  refine z_if_eqB (tgt := 17) hx hb dX8_left_5 (by decide) (fun c2 => ?_) (fun c2 => ?_)
  · refine z_bipush hx hb dX8_left_17 (by decide) ?_
    exact s_iret hx hb hr hlocks (by unfold spLeft; repeat (first | rw [if_pos (by first | assumption | omega)] | rw [if_neg (by first | assumption | omega | (intro hk; exact hk (by assumption)))])) dX8_left_19
  · refine lv_aload_n hx hb dX8_left_8 rfl (lv_at hl 0 rfl) ?_
    refine m_get hx hb hts hin8 hown hK hW 16 (by decide) (hts _ (by decide +kernel)) (v := .ref (ad 16)) rfl dX8_left_9 ?_
    refine lv_iload_n hx hb dX8_left_12 rfl (lv_at hl 1 rfl) ?_
    refine m_ald (d := 16) (j := a.toNat) hx hb hK hW rfl (by omega) (show a.toNat < 30 from by omega) dX8_left_13 ?_
    have r3 : (0 : Int) ≤ τ 16 a.toNat ∧ τ 16 a.toNat ≤ 4 := hI 16 a.toNat
    refine lv_goto (tgt := 19) hx hb dX8_left_14 (by decide) ?_
    exact s_iret hx hb hr hlocks (by unfold spLeft; repeat (first | rw [if_pos (by first | assumption | omega)] | rw [if_neg (by first | assumption | omega | (intro hk; exact hk (by assumption)))])) dX8_left_19
set_option maxHeartbeats 4000000 in
set_option maxRecDepth 100000 in
theorem c8_hasResults (l : Launch) (D : va_G) (cI cZ : ClassId) (ad : Nat → Nat) (τ : Tau) (hI : Rng τ) (b : Nat) (zb : Int) (hzb : zb = (b : Int)) (h0 : b < 6) : Met l yX8_hasResults wsX8_hasResults { frames := 0, cells := 0, slots := 0, locals := 0 } (mPc D cI cZ ad τ [.ref (ad 0), .int (iI zb)]) (rS (bI (hrO τ b = true))) 0 0 NoA := by
  subst hzb
  refine m_start (by decide) rfl (Nat.le_of_ble_eq_true rfl) ?_
  intro p e s m below meth c hx hb hr hlocks hml hts hown hW hK ls hl
  have hin8 : ∀ w ∈ wsX80, w ∈ wsX8_hasResults := by decide +kernel
  have hl : lv_has ls 4 [(0, .ref (ad 0)), (1, .int (iI ((b : Int))))] := hl
  obtain ⟨N, hN⟩ : ∃ N : Nat, τ 19 b = N := ⟨(τ 19 b).toNat, by have : (0 : Int) ≤ τ 19 b ∧ τ 19 b ≤ 16 := hI 19 b; omega⟩
  have hN2 : (τ 19 b).toNat = N := by omega
  have hN3 : N ≤ 16 := by have : (0 : Int) ≤ τ 19 b ∧ τ 19 b ≤ 16 := hI 19 b; omega
  refine z_iconst hx hb dX8_hasResults_0 ?_
  refine lv_istore_n (lv' := [(2, .int (iI (0))), (0, .ref (ad 0)), (1, .int (iI ((b : Int))))]) hx hb dX8_hasResults_1 rfl hl (by decide) rfl (fun ls hl => ?_)
  refine z_iconst hx hb dX8_hasResults_2 ?_
  refine lv_istore_n (lv' := [(3, .int (iI (0))), (2, .int (iI (0))), (0, .ref (ad 0)), (1, .int (iI ((b : Int))))]) hx hb dX8_hasResults_3 rfl hl (by decide) rfl (fun ls hl => ?_)
  have lp4 : ∀ (n4 k : Nat) (x2 x3 : Int), x2 = bI (hrK τ b k = true) → x3 = (k : Int) → k ≤ N → N + 1 ≤ k + n4 → ∀ ls : Array Slot, lv_has ls 4 [(2, .int (iI (x2))), (3, .int (iI (x3))), (0, .ref (ad 0)), (1, .int (iI ((b : Int))))] → W p l e { frames := 0, cells := 0, slots := 0, locals := 0 } s m [.ref (ad 0), .int (iI ((b : Int)))].toArray below meth c s.heap [] 0 0 (MQ below (rS (bI (hrO τ b = true))) [.ref (ad 0), .int (iI ((b : Int)))].toArray s 0 0 (NoA)) (F0 m 4 ls []) := by
    intro n4
    induction n4 with
    | zero => intro k x2 x3 ex2 ex3 hk1 hk2; exact absurd hk2 (by omega)
    | succ n4 ih4 =>
      intro k x2 x3 ex2 ex3 hk1 hk2  ls hl
      subst ex2
      subst ex3
      refine lv_iload_n hx hb dX8_hasResults_4 rfl (lv_at hl 1 rfl) ?_
      refine lv_aload_n hx hb dX8_hasResults_5 rfl (lv_at hl 2 rfl) ?_
      refine m_get hx hb hts hin8 hown hK hW 19 (by decide) (hts _ (by decide +kernel)) (v := .ref (ad 19)) rfl dX8_hasResults_6 ?_
      refine lv_iload_n hx hb dX8_hasResults_9 rfl (lv_at hl 3 rfl) ?_
      refine m_ald (d := 19) (j := b) hx hb hK hW rfl (by omega) (show b < 6 from by omega) dX8_hasResults_10 ?_
      have r1 : (0 : Int) ≤ τ 19 b ∧ τ 19 b ≤ 16 := hI 19 b
      refine z_icmp_ge (tgt := 44) hx hb (by omega) (by omega) dX8_hasResults_11 (by decide) (fun c2 => ?_) (fun c2 => ?_)
      · refine lv_iload_n hx hb dX8_hasResults_44 rfl (lv_at hl 0 rfl) ?_
        exact s_zret hx hb hr hlocks (by unfold hrO; rw [hN2, show N = k by omega]) dX8_hasResults_45
      · have jn37 : ∀ xj : Int, xj = bI (hrK τ b (k + 1) = true) → ∀ ls : Array Slot, lv_has ls 4 [(2, .int (iI (bI (hrK τ b k = true)))), (3, .int (iI ((k : Int)))), (0, .ref (ad 0)), (1, .int (iI ((b : Int))))] → W p l e { frames := 0, cells := 0, slots := 0, locals := 0 } s m [.ref (ad 0), .int (iI ((b : Int)))].toArray below meth c s.heap [] 0 0 (MQ below (rS (bI (hrO τ b = true))) [.ref (ad 0), .int (iI ((b : Int)))].toArray s 0 0 (NoA)) (F0 m 37 ls (.int (iI xj) :: [])) := by
          intro xj ej ls hl
          subst ej
          refine lv_istore_n (lv' := [(2, .int (iI (bI (hrK τ b (k + 1) = true)))), (3, .int (iI ((k : Int)))), (0, .ref (ad 0)), (1, .int (iI ((b : Int))))]) hx hb dX8_hasResults_37 rfl hl (by decide) rfl (fun ls hl => ?_)
          refine z_iinc (k := 1) (lv' := [(3, .int (iI ((k : Int) + 1))), (2, .int (iI (bI (hrK τ b (k + 1) = true)))), (0, .ref (ad 0)), (1, .int (iI ((b : Int))))]) hx hb dX8_hasResults_38 hl rfl (by decide) rfl (fun ls hl => ?_)
          refine lv_goto (tgt := 4) hx hb dX8_hasResults_41 (by decide) ?_
          exact ih4 (k + 1) (bI (hrK τ b (k + 1) = true)) ((k : Int) + 1) rfl (by omega) (by omega) (by omega)  ls (lv_sub hl [1, 0, 2, 3] rfl)
        refine lv_iload_n hx hb dX8_hasResults_14 rfl (lv_at hl 0 rfl) ?_
        refine z_if_neB (tgt := 32) hx hb dX8_hasResults_15 (by decide) (fun c3 => ?_) (fun c3 => ?_)
        · refine z_iconst hx hb dX8_hasResults_32 ?_
          refine lv_goto (tgt := 37) hx hb dX8_hasResults_33 (by decide) ?_
          exact jn37 1 (by first | rw [bI_t (by rw [hrK_s, c3]; rfl)] | rw [bI_t (by rw [hrK_s]; simp [c3])]) ls (lv_sub hl [0, 1, 2, 3] rfl)
        · refine lv_aload_n hx hb dX8_hasResults_18 rfl (lv_at hl 2 rfl) ?_
          refine m_get hx hb hts hin8 hown hK hW 23 (by decide) (hts _ (by decide +kernel)) (v := .ref (ad 23)) rfl dX8_hasResults_19 ?_
          refine z_bipush hx hb dX8_hasResults_22 (by decide) ?_
          refine lv_iload_n hx hb dX8_hasResults_24 rfl (lv_at hl 3 rfl) ?_
          refine z_imul hx hb dX8_hasResults_25 ?_
          refine lv_iload_n hx hb dX8_hasResults_26 rfl (lv_at hl 1 rfl) ?_
          refine z_iadd hx hb dX8_hasResults_27 ?_
          refine m_zld (d := 23) (j := (16 * b) + k) hx hb hK hW rfl (by omega) (show (16 * b) + k < 96 from by omega) dX8_hasResults_28 ?_
          have r4 : (0 : Int) ≤ τ 23 ((16 * b) + k) ∧ τ 23 ((16 * b) + k) ≤ 1 := hI 23 ((16 * b) + k)
          refine z_if_eq (tgt := 36) hx hb (by omega) dX8_hasResults_29 (by decide) (fun c5 => ?_) (fun c5 => ?_)
          · refine z_iconst hx hb dX8_hasResults_36 ?_
            exact jn37 0 (by rw [bI_f (by rw [hrK_s]; simp [c5, c3])]) ls (lv_sub hl [0, 1, 2, 3] rfl)
          · refine z_iconst hx hb dX8_hasResults_32 ?_
            refine lv_goto (tgt := 37) hx hb dX8_hasResults_33 (by decide) ?_
            exact jn37 1 (by first | rw [bI_t (by rw [hrK_s, c5]; rfl)] | rw [bI_t (by rw [hrK_s]; simp [c5])]) ls (lv_sub hl [0, 1, 2, 3] rfl)
  exact lp4 (N + 1) 0 0 0 rfl (by omega) (by omega) (by omega)  ls (lv_sub hl [1, 0, 2, 3] rfl)
set_option maxHeartbeats 4000000 in
set_option maxRecDepth 100000 in
theorem c8_placeOf (l : Launch) (D : va_G) (cI cZ : ClassId) (ad : Nat → Nat) (τ : Tau) (hI : Rng τ) (b : Nat) (zb : Int) (hzb : zb = (b : Int)) (x : Int) (h_x : I32 x) (h0 : b < 6) : Met l yX8_placeOf wsX8_placeOf { frames := 0, cells := 0, slots := 0, locals := 0 } (mPc D cI cZ ad τ [.ref (ad 0), .int (iI zb), .int (iI (x))]) (rS (plO τ b x)) 0 0 NoA := by
  subst hzb
  refine m_start (by decide) rfl (Nat.le_of_ble_eq_true rfl) ?_
  intro p e s m below meth c hx hb hr hlocks hml hts hown hW hK ls hl
  have hin8 : ∀ w ∈ wsX80, w ∈ wsX8_placeOf := by decide +kernel
  have hl : lv_has ls 4 [(0, .ref (ad 0)), (1, .int (iI ((b : Int)))), (2, .int (iI (x)))] := hl
  obtain ⟨N, hN⟩ : ∃ N : Nat, τ 19 b = N := ⟨(τ 19 b).toNat, by have : (0 : Int) ≤ τ 19 b ∧ τ 19 b ≤ 16 := hI 19 b; omega⟩
  have hN2 : (τ 19 b).toNat = N := by omega
  have hN3 : N ≤ 16 := by have : (0 : Int) ≤ τ 19 b ∧ τ 19 b ≤ 16 := hI 19 b; omega
  refine z_iconst hx hb dX8_placeOf_0 ?_
  refine lv_istore_n (lv' := [(3, .int (iI (0))), (0, .ref (ad 0)), (1, .int (iI ((b : Int)))), (2, .int (iI (x)))]) hx hb dX8_placeOf_1 rfl hl (by decide) rfl (fun ls hl => ?_)
  have lp2 : ∀ (n2 k : Nat) (x3 : Int), x3 = (k : Int) → k ≤ N → N + 1 ≤ k + n2 → (∀ j, j < k → plB τ b x j = false) → ∀ ls : Array Slot, lv_has ls 4 [(3, .int (iI (x3))), (0, .ref (ad 0)), (1, .int (iI ((b : Int)))), (2, .int (iI (x)))] → W p l e { frames := 0, cells := 0, slots := 0, locals := 0 } s m [.ref (ad 0), .int (iI ((b : Int))), .int (iI (x))].toArray below meth c s.heap [] 0 0 (MQ below (rS (plO τ b x)) [.ref (ad 0), .int (iI ((b : Int))), .int (iI (x))].toArray s 0 0 (NoA)) (F0 m 2 ls []) := by
    intro n2
    induction n2 with
    | zero => intro k x3 ex3 hk1 hk2; exact absurd hk2 (by omega)
    | succ n2 ih2 =>
      intro k x3 ex3 hk1 hk2 hn ls hl
      subst ex3
      refine lv_iload_n hx hb dX8_placeOf_2 rfl (lv_at hl 0 rfl) ?_
      refine lv_aload_n hx hb dX8_placeOf_3 rfl (lv_at hl 1 rfl) ?_
      refine m_get hx hb hts hin8 hown hK hW 19 (by decide) (hts _ (by decide +kernel)) (v := .ref (ad 19)) rfl dX8_placeOf_4 ?_
      refine lv_iload_n hx hb dX8_placeOf_7 rfl (lv_at hl 2 rfl) ?_
      refine m_ald (d := 19) (j := b) hx hb hK hW rfl (by omega) (show b < 6 from by omega) dX8_placeOf_8 ?_
      have r1 : (0 : Int) ≤ τ 19 b ∧ τ 19 b ≤ 16 := hI 19 b
      refine z_icmp_ge (tgt := 49) hx hb (by omega) (by omega) dX8_placeOf_9 (by decide) (fun c2 => ?_) (fun c2 => ?_)
      · refine z_iconst hx hb dX8_placeOf_49 ?_
        exact s_iret hx hb hr hlocks (by unfold plO; rw [hN2, show N = k by omega]; exact (ff_no hn).symm) dX8_placeOf_50
      · refine lv_aload_n hx hb dX8_placeOf_12 rfl (lv_at hl 1 rfl) ?_
        refine m_get hx hb hts hin8 hown hK hW 20 (by decide) (hts _ (by decide +kernel)) (v := .ref (ad 20)) rfl dX8_placeOf_13 ?_
        refine z_bipush hx hb dX8_placeOf_16 (by decide) ?_
        refine lv_iload_n hx hb dX8_placeOf_18 rfl (lv_at hl 2 rfl) ?_
        refine z_imul hx hb dX8_placeOf_19 ?_
        refine lv_iload_n hx hb dX8_placeOf_20 rfl (lv_at hl 0 rfl) ?_
        refine z_iadd hx hb dX8_placeOf_21 ?_
        refine m_ald (d := 20) (j := (16 * b) + k) hx hb hK hW rfl (by omega) (show (16 * b) + k < 96 from by omega) dX8_placeOf_22 ?_
        have r3 : (0 : Int) ≤ τ 20 ((16 * b) + k) ∧ τ 20 ((16 * b) + k) ≤ 3 := hI 20 ((16 * b) + k)
        refine z_if_ne (tgt := 43) hx hb (by omega) dX8_placeOf_23 (by decide) (fun c4 => ?_) (fun c4 => ?_)
        · refine z_iinc (k := 0) (lv' := [(3, .int (iI ((k : Int) + 1))), (0, .ref (ad 0)), (1, .int (iI ((b : Int)))), (2, .int (iI (x)))]) hx hb dX8_placeOf_43 hl rfl (by decide) rfl (fun ls hl => ?_)
          refine lv_goto (tgt := 2) hx hb dX8_placeOf_46 (by decide) ?_
          exact ih2 (k + 1) ((k : Int) + 1) (by omega) (by omega) (by omega) (fl_s hn (decide_eq_false (by omega))) ls (lv_sub hl [0, 1, 2, 3] rfl)
        · refine lv_aload_n hx hb dX8_placeOf_26 rfl (lv_at hl 1 rfl) ?_
          refine m_get hx hb hts hin8 hown hK hW 21 (by decide) (hts _ (by decide +kernel)) (v := .ref (ad 21)) rfl dX8_placeOf_27 ?_
          refine z_bipush hx hb dX8_placeOf_30 (by decide) ?_
          refine lv_iload_n hx hb dX8_placeOf_32 rfl (lv_at hl 2 rfl) ?_
          refine z_imul hx hb dX8_placeOf_33 ?_
          refine lv_iload_n hx hb dX8_placeOf_34 rfl (lv_at hl 0 rfl) ?_
          refine z_iadd hx hb dX8_placeOf_35 ?_
          refine m_ald (d := 21) (j := (16 * b) + k) hx hb hK hW rfl (by omega) (show (16 * b) + k < 96 from by omega) dX8_placeOf_36 ?_
          have r5 : (0 : Int) ≤ τ 21 ((16 * b) + k) ∧ τ 21 ((16 * b) + k) ≤ 100000 := hI 21 ((16 * b) + k)
          refine lv_iload_n hx hb dX8_placeOf_37 rfl (lv_at hl 3 rfl) ?_
          refine z_icmp_ne (tgt := 43) hx hb (by omega) (by omega) dX8_placeOf_38 (by decide) (fun c6 => ?_) (fun c6 => ?_)
          · refine z_iinc (k := 0) (lv' := [(3, .int (iI ((k : Int) + 1))), (0, .ref (ad 0)), (1, .int (iI ((b : Int)))), (2, .int (iI (x)))]) hx hb dX8_placeOf_43 hl rfl (by decide) rfl (fun ls hl => ?_)
            refine lv_goto (tgt := 2) hx hb dX8_placeOf_46 (by decide) ?_
            exact ih2 (k + 1) ((k : Int) + 1) (by omega) (by omega) (by omega) (fl_s hn (decide_eq_false (by omega))) ls (lv_sub hl [0, 1, 2, 3] rfl)
          · refine lv_iload_n hx hb dX8_placeOf_41 rfl (lv_at hl 0 rfl) ?_
            exact s_iret hx hb hr hlocks (by unfold plO; rw [hN2]; exact (ff_at hn (decide_eq_true (by omega)) (by omega)).symm) dX8_placeOf_42
  exact lp2 (N + 1) 0 0 (by omega) (by omega) (by omega) fl_0 ls (lv_sub hl [0, 1, 2, 3] rfl)
set_option maxHeartbeats 4000000 in
set_option maxRecDepth 100000 in
theorem c8_add_full (l : Launch) (D : va_G) (cI cZ : ClassId) (ad : Nat → Nat) (τ : Tau) (hI : Rng τ) (b : Nat) (zb : Int) (hzb : zb = (b : Int)) (k : Int) (h_k : I32 k) (o : Int) (h_o : I32 o) (f : Int) (h_f : I32 f) (h0 : b < 6) (hf : τ 19 b = 16) : Met l yX8_add wsX8_add { frames := 0, cells := 0, slots := 0, locals := 0 } (mPc D cI cZ ad τ [.ref (ad 0), .int (iI zb), .int (iI (k)), .int (iI (o)), .int (iI (f))]) (mQ D cI cZ ad (some (.int (iI (-104)))) (τ)) 0 0 (MA ad) := by
  subst hzb
  refine m_start (by decide) rfl (Nat.le_of_ble_eq_true rfl) ?_
  intro p e s m below meth c hx hb hr hlocks hml hts hown hW hK ls hl
  have hin8 : ∀ w ∈ wsX80, w ∈ wsX8_add := by decide +kernel
  have hS : va_S (MA ad) s.heap s.heap [] := va_S.rf
  have hz : s.heap.size = s.heap.size := rfl
  have hR : Rng τ := hI
  have hl : lv_has ls 6 [(0, .ref (ad 0)), (1, .int (iI ((b : Int)))), (2, .int (iI (k))), (3, .int (iI (o))), (4, .int (iI (f)))] := hl
  refine lv_aload_n hx hb dX8_add_0 rfl (lv_at hl 0 rfl) ?_
  refine m_get hx hb hts hin8 hown hK hW 19 (by decide) (hts _ (by decide +kernel)) (v := .ref (ad 19)) rfl dX8_add_1 ?_
  refine lv_iload_n hx hb dX8_add_4 rfl (lv_at hl 1 rfl) ?_
  refine m_ald (d := 19) (j := b) hx hb hK hW rfl (by omega) (show b < 6 from by omega) dX8_add_5 ?_
  have r1 : (0 : Int) ≤ τ 19 b ∧ τ 19 b ≤ 16 := hI 19 b
  refine z_bipush hx hb dX8_add_6 (by decide) ?_
  refine z_icmp_ne (tgt := 14) hx hb (by omega) (by omega) dX8_add_8 (by decide) (fun c2 => ?_) (fun c2 => ?_)
  · exfalso; omega
  · refine z_bipush hx hb dX8_add_11 (by decide) ?_
    exact m_iret hx hb hr hlocks (hW) hS hz (rfl) dX8_add_13
set_option maxHeartbeats 4000000 in
set_option maxRecDepth 100000 in
theorem c8_add_ok (l : Launch) (D : va_G) (cI cZ : ClassId) (ad : Nat → Nat) (τ : Tau) (hI : Rng τ) (b : Nat) (zb : Int) (hzb : zb = (b : Int)) (k : Int) (h_k : I32 k) (o : Int) (h_o : I32 o) (f : Int) (h_f : I32 f) (h0 : b < 6) (hf : ¬ τ 19 b = 16) (hk : 0 ≤ k ∧ k ≤ 3) (ho : 0 ≤ o ∧ o ≤ 100000) (hff : 0 ≤ f ∧ f ≤ 10000) : Met l yX8_add wsX8_add { frames := 0, cells := 0, slots := 0, locals := 0 } (mPc D cI cZ ad τ [.ref (ad 0), .int (iI zb), .int (iI (k)), .int (iI (o)), .int (iI (f))]) (mQ D cI cZ ad (some (.int (iI (τ 19 b)))) (adT τ b k o f)) 0 0 (MA ad) := by
  subst hzb
  refine m_start (by decide) rfl (Nat.le_of_ble_eq_true rfl) ?_
  intro p e s m below meth c hx hb hr hlocks hml hts hown hW hK ls hl
  have hin8 : ∀ w ∈ wsX80, w ∈ wsX8_add := by decide +kernel
  have hS : va_S (MA ad) s.heap s.heap [] := va_S.rf
  have hz : s.heap.size = s.heap.size := rfl
  have hR : Rng τ := hI
  have hl : lv_has ls 6 [(0, .ref (ad 0)), (1, .int (iI ((b : Int)))), (2, .int (iI (k))), (3, .int (iI (o))), (4, .int (iI (f)))] := hl
  refine lv_aload_n hx hb dX8_add_0 rfl (lv_at hl 0 rfl) ?_
  refine m_get hx hb hts hin8 hown hK hW 19 (by decide) (hts _ (by decide +kernel)) (v := .ref (ad 19)) rfl dX8_add_1 ?_
  refine lv_iload_n hx hb dX8_add_4 rfl (lv_at hl 1 rfl) ?_
  refine m_ald (d := 19) (j := b) hx hb hK hW rfl (by omega) (show b < 6 from by omega) dX8_add_5 ?_
  have r1 : (0 : Int) ≤ τ 19 b ∧ τ 19 b ≤ 16 := hI 19 b
  refine z_bipush hx hb dX8_add_6 (by decide) ?_
  refine z_icmp_ne (tgt := 14) hx hb (by omega) (by omega) dX8_add_8 (by decide) (fun c2 => ?_) (fun c2 => ?_)
  · refine z_bipush hx hb dX8_add_14 (by decide) ?_
    refine lv_iload_n hx hb dX8_add_16 rfl (lv_at hl 1 rfl) ?_
    refine z_imul hx hb dX8_add_17 ?_
    refine lv_aload_n hx hb dX8_add_18 rfl (lv_at hl 0 rfl) ?_
    refine m_get hx hb hts hin8 hown hK hW 19 (by decide) (hts _ (by decide +kernel)) (v := .ref (ad 19)) rfl dX8_add_19 ?_
    refine lv_iload_n hx hb dX8_add_22 rfl (lv_at hl 1 rfl) ?_
    refine m_ald (d := 19) (j := b) hx hb hK hW rfl (by omega) (show b < 6 from by omega) dX8_add_23 ?_
    refine z_iadd hx hb dX8_add_24 ?_
    refine lv_istore (lv' := [(5, .int (iI ((16 * (b : Int)) + (τ 19 b)))), (0, .ref (ad 0)), (1, .int (iI ((b : Int)))), (2, .int (iI (k))), (3, .int (iI (o))), (4, .int (iI (f)))]) hx hb dX8_add_25 hl (by decide) rfl (fun ls hl => ?_)
    refine lv_aload_n hx hb dX8_add_27 rfl (lv_at hl 1 rfl) ?_
    refine m_get hx hb hts hin8 hown hK hW 20 (by decide) (hts _ (by decide +kernel)) (v := .ref (ad 20)) rfl dX8_add_28 ?_
    refine lv_iload hx hb dX8_add_31 (lv_at hl 0 rfl) ?_
    refine lv_iload_n hx hb dX8_add_33 rfl (lv_at hl 3 rfl) ?_
    refine m_ast (d := 20) (j := (16 * b) + ((τ 19 b).toNat)) (v := k) hx hb hK hW hS hz rfl (by omega) (show (16 * b) + ((τ 19 b).toNat) < 96 from by omega) dX8_add_34 (fun H locs hW hS hz => ?_)
    have hR := Rng.tu (c := 20) (i := (16 * b) + ((τ 19 b).toNat)) (v := k) hR (show (0 : Int) ≤ k from by omega) (show k ≤ 3 from by omega)
    refine lv_aload_n hx hb dX8_add_35 rfl (lv_at hl 1 rfl) ?_
    refine m_get hx hb hts hin8 hown hK hW 21 (by decide) (hts _ (by decide +kernel)) (v := .ref (ad 21)) rfl dX8_add_36 ?_
    refine lv_iload hx hb dX8_add_39 (lv_at hl 0 rfl) ?_
    refine lv_iload_n hx hb dX8_add_41 rfl (lv_at hl 4 rfl) ?_
    refine m_ast (d := 21) (j := (16 * b) + ((τ 19 b).toNat)) (v := o) hx hb hK hW hS hz rfl (by omega) (show (16 * b) + ((τ 19 b).toNat) < 96 from by omega) dX8_add_42 (fun H locs hW hS hz => ?_)
    have hR := Rng.tu (c := 21) (i := (16 * b) + ((τ 19 b).toNat)) (v := o) hR (show (0 : Int) ≤ o from by omega) (show o ≤ 100000 from by omega)
    refine lv_aload_n hx hb dX8_add_43 rfl (lv_at hl 1 rfl) ?_
    refine m_get hx hb hts hin8 hown hK hW 22 (by decide) (hts _ (by decide +kernel)) (v := .ref (ad 22)) rfl dX8_add_44 ?_
    refine lv_iload hx hb dX8_add_47 (lv_at hl 0 rfl) ?_
    refine lv_iload hx hb dX8_add_49 (lv_at hl 5 rfl) ?_
    refine m_ast (d := 22) (j := (16 * b) + ((τ 19 b).toNat)) (v := f) hx hb hK hW hS hz rfl (by omega) (show (16 * b) + ((τ 19 b).toNat) < 96 from by omega) dX8_add_51 (fun H locs hW hS hz => ?_)
    have hR := Rng.tu (c := 22) (i := (16 * b) + ((τ 19 b).toNat)) (v := f) hR (show (0 : Int) ≤ f from by omega) (show f ≤ 10000 from by omega)
    refine lv_aload_n hx hb dX8_add_52 rfl (lv_at hl 1 rfl) ?_
    refine m_get hx hb hts hin8 hown hK hW 19 (by decide) (hts _ (by decide +kernel)) (v := .ref (ad 19)) rfl dX8_add_53 ?_
    refine lv_iload_n hx hb dX8_add_56 rfl (lv_at hl 2 rfl) ?_
    refine lv_dup2_11 hx hb dX8_add_57 rfl rfl ?_
    refine m_ald (d := 19) (j := b) hx hb hK hW rfl (by omega) (show b < 6 from by omega) dX8_add_58 ?_
    refine z_top (show (tu (tu (tu τ 20 ((16 * b) + ((τ 19 b).toNat)) k) 21 ((16 * b) + ((τ 19 b).toNat)) o) 22 ((16 * b) + ((τ 19 b).toNat)) f) 19 b = τ 19 b from by rw [tu_n (show 19 ≠ 22 by decide), tu_n (show 19 ≠ 21 by decide), tu_n (show 19 ≠ 20 by decide)]) ?_
    refine z_iconst hx hb dX8_add_59 ?_
    refine z_iadd hx hb dX8_add_60 ?_
    refine m_ast (d := 19) (j := b) (v := (τ 19 b) + 1) hx hb hK hW hS hz rfl (by omega) (show b < 6 from by omega) dX8_add_61 (fun H locs hW hS hz => ?_)
    have hR := Rng.tu (c := 19) (i := b) (v := (τ 19 b) + 1) hR (show (0 : Int) ≤ (τ 19 b) + 1 from by omega) (show (τ 19 b) + 1 ≤ 16 from by omega)
    refine lv_aload_n hx hb dX8_add_62 rfl (lv_at hl 1 rfl) ?_
    refine m_get hx hb hts hin8 hown hK hW 19 (by decide) (hts _ (by decide +kernel)) (v := .ref (ad 19)) rfl dX8_add_63 ?_
    refine lv_iload_n hx hb dX8_add_66 rfl (lv_at hl 2 rfl) ?_
    refine m_ald (d := 19) (j := b) hx hb hK hW rfl (by omega) (show b < 6 from by omega) dX8_add_67 ?_
    refine z_top (show (tu (tu (tu (tu τ 20 ((16 * b) + ((τ 19 b).toNat)) k) 21 ((16 * b) + ((τ 19 b).toNat)) o) 22 ((16 * b) + ((τ 19 b).toNat)) f) 19 b ((τ 19 b) + 1)) 19 b = (τ 19 b) + 1 from by rw [tu_s]) ?_
    refine z_iconst hx hb dX8_add_68 ?_
    refine z_isub hx hb dX8_add_69 ?_
    exact m_iret hx hb hr hlocks (hW) hS hz (by omega) dX8_add_70
  · exfalso; omega
set_option maxHeartbeats 4000000 in
set_option maxRecDepth 100000 in
theorem c8_quarter_no (l : Launch) (D : va_G) (cI cZ : ClassId) (ad : Nat → Nat) (τ : Tau) (hI : Rng τ) (j : Nat) (zj : Int) (hzj : zj = (j : Int)) (z : Int) (h_z : I32 z) (h0 : j < 30) (hz2 : z < 0) : Met l yX8_quarter wsX8_quarter { frames := 0, cells := 0, slots := 0, locals := 0 } (mPc D cI cZ ad τ [.ref (ad 0), .int (iI zj), .int (iI (z))]) (mQ D cI cZ ad (some (.int (iI (z)))) (τ)) 0 0 (MA ad) := by
  subst hzj
  refine m_start (by decide) rfl (Nat.le_of_ble_eq_true rfl) ?_
  intro p e s m below meth c hx hb hr hlocks hml hts hown hW hK ls hl
  have hin8 : ∀ w ∈ wsX80, w ∈ wsX8_quarter := by decide +kernel
  have hS : va_S (MA ad) s.heap s.heap [] := va_S.rf
  have hz : s.heap.size = s.heap.size := rfl
  have hR : Rng τ := hI
  have hl : lv_has ls 3 [(0, .ref (ad 0)), (1, .int (iI ((j : Int)))), (2, .int (iI (z)))] := hl
  refine lv_iload_n hx hb dX8_quarter_0 rfl (lv_at hl 2 rfl) ?_
  refine z_if_lt (tgt := 24) hx hb (by omega) dX8_quarter_1 (by decide) (fun c1 => ?_) (fun c1 => ?_)
  · refine lv_iload_n hx hb dX8_quarter_24 rfl (lv_at hl 2 rfl) ?_
    exact m_iret hx hb hr hlocks (hW) hS hz (rfl) dX8_quarter_25
  · exfalso; omega
set_option maxHeartbeats 4000000 in
set_option maxRecDepth 100000 in
theorem c8_quarter_ok (l : Launch) (D : va_G) (cI cZ : ClassId) (ad : Nat → Nat) (τ : Tau) (hI : Rng τ) (j : Nat) (zj : Int) (hzj : zj = (j : Int)) (z : Int) (h_z : I32 z) (h0 : j < 30) (hz2 : 0 ≤ z) (hq : ¬ τ 16 j = 0) (ht : τ 17 0 < 120) : Met l yX8_quarter wsX8_quarter { frames := 0, cells := 0, slots := 0, locals := 0 } (mPc D cI cZ ad τ [.ref (ad 0), .int (iI zj), .int (iI (z))]) (mQ D cI cZ ad (some (.int (iI (z)))) (qtT τ j)) 0 0 (MA ad) := by
  subst hzj
  refine m_start (by decide) rfl (Nat.le_of_ble_eq_true rfl) ?_
  intro p e s m below meth c hx hb hr hlocks hml hts hown hW hK ls hl
  have hin8 : ∀ w ∈ wsX80, w ∈ wsX8_quarter := by decide +kernel
  have hS : va_S (MA ad) s.heap s.heap [] := va_S.rf
  have hz : s.heap.size = s.heap.size := rfl
  have hR : Rng τ := hI
  have hl : lv_has ls 3 [(0, .ref (ad 0)), (1, .int (iI ((j : Int)))), (2, .int (iI (z)))] := hl
  refine lv_iload_n hx hb dX8_quarter_0 rfl (lv_at hl 2 rfl) ?_
  refine z_if_lt (tgt := 24) hx hb (by omega) dX8_quarter_1 (by decide) (fun c1 => ?_) (fun c1 => ?_)
  · exfalso; omega
  · refine lv_aload_n hx hb dX8_quarter_4 rfl (lv_at hl 0 rfl) ?_
    refine m_get hx hb hts hin8 hown hK hW 16 (by decide) (hts _ (by decide +kernel)) (v := .ref (ad 16)) rfl dX8_quarter_5 ?_
    refine lv_iload_n hx hb dX8_quarter_8 rfl (lv_at hl 1 rfl) ?_
    refine lv_dup2_11 hx hb dX8_quarter_9 rfl rfl ?_
    refine m_ald (d := 16) (j := j) hx hb hK hW rfl (by omega) (show j < 30 from by omega) dX8_quarter_10 ?_
    have r2 : (0 : Int) ≤ τ 16 j ∧ τ 16 j ≤ 4 := hI 16 j
    refine z_iconst hx hb dX8_quarter_11 ?_
    refine z_isub hx hb dX8_quarter_12 ?_
    refine m_ast (d := 16) (j := j) (v := (τ 16 j) - 1) hx hb hK hW hS hz rfl (by omega) (show j < 30 from by omega) dX8_quarter_13 (fun H locs hW hS hz => ?_)
    have hR := Rng.tu (c := 16) (i := j) (v := (τ 16 j) - 1) hR (show (0 : Int) ≤ (τ 16 j) - 1 from by omega) (show (τ 16 j) - 1 ≤ 4 from by omega)
    refine lv_aload_n hx hb dX8_quarter_14 rfl (lv_at hl 0 rfl) ?_
    refine lv_dup hx hb dX8_quarter_15 rfl ?_
    refine m_get hx hb hts hin8 hown hK hW 17 (by decide) (hts _ (by decide +kernel)) (v := .int (iI ((tu τ 16 j ((τ 16 j) - 1)) 17 0))) rfl dX8_quarter_16 ?_
    refine z_top (show (tu τ 16 j ((τ 16 j) - 1)) 17 0 = τ 17 0 from by rw [tu_n (show 17 ≠ 16 by decide)]) ?_
    have r3 : (0 : Int) ≤ τ 17 0 ∧ τ 17 0 ≤ 120 := hI 17 0
    refine z_iconst hx hb dX8_quarter_19 ?_
    refine z_iadd hx hb dX8_quarter_20 ?_
    refine m_put (v := (τ 17 0) + 1) hx hb hts hin8 hown hK hW hS hz 17 (by decide) (by decide) (hts _ (by decide +kernel)) rfl (by decide +kernel) rfl dX8_quarter_21 (fun H locs hW hS hz => ?_)
    have hR := Rng.tu (c := 17) (i := 0) (v := (τ 17 0) + 1) hR (show (0 : Int) ≤ (τ 17 0) + 1 from by omega) (show (τ 17 0) + 1 ≤ 120 from by omega)
    refine lv_iload_n hx hb dX8_quarter_24 rfl (lv_at hl 2 rfl) ?_
    exact m_iret hx hb hr hlocks (hW) hS hz (rfl) dX8_quarter_25
abbrev okPut (τ : Tau) (a x : Int) : Prop := ((0 ≤ a ∧ a < τ 18 0) ∧ (0 ≤ x ∧ x < τ 12 0)) ∧ (¬ τ 16 x.toNat = 0 ∧ ¬ hrO τ a.toNat = true ∧ plO τ a.toNat x = -1) ∧ ¬ τ 19 a.toNat = 16
def spPut (τ : Tau) (a x : Int) : Int := if ¬ ((0 ≤ a ∧ a < τ 18 0) ∧ (0 ≤ x ∧ x < τ 12 0)) then -101 else if ¬ (¬ τ 16 x.toNat = 0 ∧ ¬ hrO τ a.toNat = true ∧ plO τ a.toNat x = -1) then -103 else if τ 19 a.toNat = 16 then -104 else τ 19 a.toNat
def stPut (τ : Tau) (a x : Int) : Tau := if okPut τ a x then qtT (adT τ a.toNat 0 x 0) x.toNat else τ
abbrev okStd (τ : Tau) (a u v : Int) : Prop := (0 ≤ a ∧ a < τ 18 0) ∧ ((0 ≤ u ∧ u ≤ 100000) ∧ (0 ≤ v ∧ v ≤ 10000)) ∧ ¬ hrO τ a.toNat = true ∧ ¬ τ 19 a.toNat = 16
def spStd (τ : Tau) (a u v : Int) : Int := if ¬ (0 ≤ a ∧ a < τ 18 0) then -101 else if ¬ ((0 ≤ u ∧ u ≤ 100000) ∧ (0 ≤ v ∧ v ≤ 10000)) then -102 else if hrO τ a.toNat = true then -103 else if τ 19 a.toNat = 16 then -104 else τ 19 a.toNat
def stStd (τ : Tau) (a u v : Int) : Tau := if okStd τ a u v then adT τ a.toNat 1 u v else τ
abbrev okBlank (τ : Tau) (a : Int) : Prop := (0 ≤ a ∧ a < τ 18 0) ∧ ¬ hrO τ a.toNat = true ∧ ¬ τ 19 a.toNat = 16
def spBlank (τ : Tau) (a : Int) : Int := if ¬ (0 ≤ a ∧ a < τ 18 0) then -101 else if hrO τ a.toNat = true then -103 else if τ 19 a.toNat = 16 then -104 else τ 19 a.toNat
def stBlank (τ : Tau) (a : Int) : Tau := if okBlank τ a then adT τ a.toNat 2 0 0 else τ
abbrev okTwice (τ : Tau) (a u : Int) : Prop := ((0 ≤ a ∧ a < τ 18 0) ∧ (0 ≤ u ∧ u < τ 19 a.toNat)) ∧ τ 20 (16 * a.toNat + u.toNat) = 0 ∧ (¬ τ 16 (τ 21 (16 * a.toNat + u.toNat)).toNat = 0 ∧ ¬ hrO τ a.toNat = true) ∧ ¬ τ 19 a.toNat = 16
def spTwice (τ : Tau) (a u : Int) : Int := if ¬ ((0 ≤ a ∧ a < τ 18 0) ∧ (0 ≤ u ∧ u < τ 19 a.toNat)) then -101 else if ¬ τ 20 (16 * a.toNat + u.toNat) = 0 then -102 else if ¬ (¬ τ 16 (τ 21 (16 * a.toNat + u.toNat)).toNat = 0 ∧ ¬ hrO τ a.toNat = true) then -103 else if τ 19 a.toNat = 16 then -104 else τ 19 a.toNat
def stTwice (τ : Tau) (a u : Int) : Tau := if okTwice τ a u then qtT (adT τ a.toNat 3 u 0) (τ 21 (16 * a.toNat + u.toNat)).toNat else τ
abbrev okLaw (a u : Int) : Prop := (0 ≤ a ∧ a ≤ 1) ∧ (0 ≤ u ∧ u ≤ 1000)
def spLaw (τ : Tau) (a u : Int) : Int := if ¬ (0 ≤ a ∧ a ≤ 1) then -101 else if ¬ (0 ≤ u ∧ u ≤ 1000) then -102 else τ 25 a.toNat
def stLaw (τ : Tau) (a u : Int) : Tau := if okLaw a u then tu τ 25 a.toNat u else τ
abbrev okRes (τ : Tau) (a b u : Int) : Prop := ((0 ≤ a ∧ a < τ 18 0) ∧ (0 ≤ b ∧ b < τ 19 a.toNat)) ∧ (-1000 ≤ u ∧ u ≤ 100000)
def spRes (τ : Tau) (a b u : Int) : Int := if ¬ ((0 ≤ a ∧ a < τ 18 0) ∧ (0 ≤ b ∧ b < τ 19 a.toNat)) then -101 else if ¬ (-1000 ≤ u ∧ u ≤ 100000) then -102 else 1
def stRes (τ : Tau) (a b u : Int) : Tau := if okRes τ a b u then tu (tu τ 24 (16 * a.toNat + b.toNat) u) 23 (16 * a.toNat + b.toNat) 1 else τ

set_option maxHeartbeats 4000000 in
set_option maxRecDepth 100000 in
theorem c8_put (l : Launch) (D : va_G) (cI cZ : ClassId) (ad : Nat → Nat) (τ : Tau) (hI : Inv τ) (a : Int) (h_a : I32 a) (x : Int) (h_x : I32 x)  : Met l yX8_put wsX8_put { frames := 2, cells := 0, slots := 0, locals := 46 } (mPc D cI cZ ad τ [.ref (ad 0), .int (iI (a)), .int (iI (x))]) (mQ D cI cZ ad (some (.int (iI (spPut τ a x)))) (stPut τ a x)) 0 0 (MA ad) := by
  refine m_start (by decide) rfl (Nat.le_of_ble_eq_true rfl) ?_
  intro p e s m below meth c hx hb hr hlocks hml hts hown hW hK ls hl
  have hin8 : ∀ w ∈ wsX80, w ∈ wsX8_put := by decide +kernel
  have hS : va_S (MA ad) s.heap s.heap [] := va_S.rf
  have hz : s.heap.size = s.heap.size := rfl
  have hR : Rng τ := hI.1
  have hl : lv_has ls 3 [(0, .ref (ad 0)), (1, .int (iI (a))), (2, .int (iI (x)))] := hl
  refine lv_aload_n hx hb dX8_put_0 rfl (lv_at hl 0 rfl) ?_
  refine lv_iload_n hx hb dX8_put_1 rfl (lv_at hl 1 rfl) ?_
  refine m_call (n := 1) (As := [.int (iI (a))]) (rest := []) hx hb hml hts hown hK hW (c8_isBatch l D cI cZ ad τ hI.1 a (by omega)) gX8_put_X8_isBatch rfl rfl rfl (by decide +kernel) ⟨by decide, by decide⟩ rfl hl.1 rfl (Nat.le_of_ble_eq_true rfl) ⟨Nat.zero_le _, Nat.zero_le _⟩ dX8_put_2 ?_
  have r1 := (show (0 : Int) ≤ τ 18 0 ∧ τ 18 0 ≤ 6 from hI.1 18 0)
  refine z_if_eqB (tgt := 16) hx hb dX8_put_5 (by decide) (fun c2 => ?_) (fun c2 => ?_)
  · refine z_bipush hx hb dX8_put_16 (by decide) ?_
    exact m_iret hx hb hr hlocks (by unfold stPut; rw [if_neg (fun hk => by first | omega | exact hk.2.1.2.1 (by assumption) | exact hk.2.2.1.2 (by assumption) | exact hk.2.1 (by assumption) | exact hk.2.2.1 (by assumption))]; exact hW) hS hz (by unfold spPut; repeat (first | rw [if_pos (by first | assumption | omega | (intro hk; exact hk.2.1 (by assumption)) | (intro hk; exact hk.2 (by assumption)))] | rw [if_neg (by first | assumption | omega | (intro hk; exact hk ⟨by omega, by assumption, by omega⟩) | (intro hk; exact hk ⟨by omega, by assumption⟩))])) dX8_put_18
  · refine lv_aload_n hx hb dX8_put_8 rfl (lv_at hl 0 rfl) ?_
    refine lv_iload_n hx hb dX8_put_9 rfl (lv_at hl 2 rfl) ?_
    refine m_call (n := 1) (As := [.int (iI (x))]) (rest := []) hx hb hml hts hown hK hW (c8_isSample l D cI cZ ad τ hI.1 x (by omega)) gX8_put_X8_isSample rfl rfl rfl (by decide +kernel) ⟨by decide, by decide⟩ rfl hl.1 rfl (Nat.le_of_ble_eq_true rfl) ⟨Nat.zero_le _, Nat.zero_le _⟩ dX8_put_10 ?_
    have r3 := (show (0 : Int) ≤ τ 12 0 ∧ τ 12 0 ≤ 30 from hI.1 12 0)
    refine z_if_neB (tgt := 19) hx hb dX8_put_13 (by decide) (fun c4 => ?_) (fun c4 => ?_)
    · refine lv_aload_n hx hb dX8_put_19 rfl (lv_at hl 0 rfl) ?_
      refine m_get hx hb hts hin8 hown hK hW 16 (by decide) (hts _ (by decide +kernel)) (v := .ref (ad 16)) rfl dX8_put_20 ?_
      refine lv_iload_n hx hb dX8_put_23 rfl (lv_at hl 2 rfl) ?_
      refine m_ald (d := 16) (j := x.toNat) hx hb hK hW rfl (by omega) (show x.toNat < 30 from by omega) dX8_put_24 ?_
      have r5 : (0 : Int) ≤ τ 16 x.toNat ∧ τ 16 x.toNat ≤ 4 := hI.1 16 x.toNat
      refine z_if_eq (tgt := 46) hx hb (by omega) dX8_put_25 (by decide) (fun c6 => ?_) (fun c6 => ?_)
      · refine z_bipush hx hb dX8_put_46 (by decide) ?_
        exact m_iret hx hb hr hlocks (by unfold stPut; rw [if_neg (fun hk => by first | omega | exact hk.2.1.2.1 (by assumption) | exact hk.2.2.1.2 (by assumption) | exact hk.2.1 (by assumption) | exact hk.2.2.1 (by assumption))]; exact hW) hS hz (by unfold spPut; repeat (first | rw [if_pos (by first | assumption | omega | (intro hk; exact hk.2.1 (by assumption)) | (intro hk; exact hk.2 (by assumption)))] | rw [if_neg (by first | assumption | omega | (intro hk; exact hk ⟨by omega, by assumption, by omega⟩) | (intro hk; exact hk ⟨by omega, by assumption⟩))])) dX8_put_48
      · refine lv_aload_n hx hb dX8_put_28 rfl (lv_at hl 0 rfl) ?_
        refine lv_iload_n hx hb dX8_put_29 rfl (lv_at hl 1 rfl) ?_
        refine m_call (n := 1) (As := [.int (iI (a))]) (rest := []) hx hb hml hts hown hK hW (c8_hasResults l D cI cZ ad τ hI.1 a.toNat a (by omega) (by omega)) gX8_put_X8_hasResults rfl rfl rfl (by decide +kernel) ⟨by decide, by decide⟩ rfl hl.1 rfl (Nat.le_of_ble_eq_true rfl) ⟨Nat.zero_le _, Nat.zero_le _⟩ dX8_put_30 ?_
        refine z_if_neB (tgt := 46) hx hb dX8_put_33 (by decide) (fun c7 => ?_) (fun c7 => ?_)
        · refine z_bipush hx hb dX8_put_46 (by decide) ?_
          exact m_iret hx hb hr hlocks (by unfold stPut; rw [if_neg (fun hk => by first | omega | exact hk.2.1.2.1 (by assumption) | exact hk.2.2.1.2 (by assumption) | exact hk.2.1 (by assumption) | exact hk.2.2.1 (by assumption))]; exact hW) hS hz (by unfold spPut; repeat (first | rw [if_pos (by first | assumption | omega | (intro hk; exact hk.2.1 (by assumption)) | (intro hk; exact hk.2 (by assumption)))] | rw [if_neg (by first | assumption | omega | (intro hk; exact hk ⟨by omega, by assumption, by omega⟩) | (intro hk; exact hk ⟨by omega, by assumption⟩))])) dX8_put_48
        · refine lv_aload_n hx hb dX8_put_36 rfl (lv_at hl 0 rfl) ?_
          refine lv_iload_n hx hb dX8_put_37 rfl (lv_at hl 1 rfl) ?_
          refine lv_iload_n hx hb dX8_put_38 rfl (lv_at hl 2 rfl) ?_
          refine m_call (n := 2) (As := [.int (iI (a)), .int (iI (x))]) (rest := []) hx hb hml hts hown hK hW (c8_placeOf l D cI cZ ad τ hI.1 a.toNat a (by omega) x (by omega) (by omega)) gX8_put_X8_placeOf rfl rfl rfl (by decide +kernel) ⟨by decide, by decide⟩ rfl hl.1 rfl (Nat.le_of_ble_eq_true rfl) ⟨Nat.zero_le _, Nat.zero_le _⟩ dX8_put_39 ?_
          have r8 := pl_r hI.1 a.toNat x
          refine z_iconst hx hb dX8_put_42 ?_
          refine z_icmp_eq (tgt := 49) hx hb (by omega) (by omega) dX8_put_43 (by decide) (fun c9 => ?_) (fun c9 => ?_)
          · by_cases hf : τ 19 a.toNat = 16
            · refine lv_aload_n hx hb dX8_put_49 rfl (lv_at hl 0 rfl) ?_
              refine lv_iload_n hx hb dX8_put_50 rfl (lv_at hl 2 rfl) ?_
              refine lv_aload_n hx hb dX8_put_51 rfl (lv_at hl 0 rfl) ?_
              refine lv_iload_n hx hb dX8_put_52 rfl (lv_at hl 1 rfl) ?_
              refine z_iconst hx hb dX8_put_53 ?_
              refine lv_iload_n hx hb dX8_put_54 rfl (lv_at hl 2 rfl) ?_
              refine z_iconst hx hb dX8_put_55 ?_
              refine m_callW (n := 4) (As := [.int (iI (a)), .int (iI (0)), .int (iI (x)), .int (iI (0))]) (rest := [.int (iI (x)), .ref (ad 0)]) hx hb hml hts hown hK hW hS hz (c8_add_full l D cI cZ ad τ hI.1 a.toNat a (by omega) 0 (by omega) x (by omega) 0 (by omega) (by omega) (by omega)) gX8_put_X8_add rfl rfl rfl (by decide +kernel) ⟨by decide, by decide⟩ rfl hl.1 rfl (Nat.le_of_ble_eq_true rfl) ⟨Nat.zero_le _, Nat.zero_le _⟩ dX8_put_56 (fun H locs hW hS hz => ?_)
              have htk := hI.tk (j := x.toNat) (by omega) (by omega)
              have hq16 : (0 : Int) ≤ τ 16 x.toNat ∧ τ 16 x.toNat ≤ 4 := hI.1 16 x.toNat
              have h19 : (0 : Int) ≤ τ 19 a.toNat ∧ τ 19 a.toNat ≤ 16 := hI.1 19 a.toNat
              refine m_callW (n := 2) (As := [.int (iI (x)), .int (iI (-104))]) (rest := []) hx hb hml hts hown hK hW hS hz (c8_quarter_no l D cI cZ ad τ hR x.toNat x (by omega) (-104) (by omega) (by omega) (by omega)) gX8_put_X8_quarter rfl rfl rfl (by decide +kernel) ⟨by decide, by decide⟩ rfl hl.1 rfl (Nat.le_of_ble_eq_true rfl) ⟨Nat.zero_le _, Nat.zero_le _⟩ dX8_put_59 (fun H locs hW hS hz => ?_)
              exact m_iret hx hb hr hlocks (by first | (unfold stPut; rw [if_neg (fun hk => hk.2.2 hf)]; exact hW) | (unfold stPut; rw [if_pos ⟨by omega, ⟨by omega, by assumption, by omega⟩, hf⟩]; exact hW)) hS hz (by unfold spPut; repeat (first | rw [if_pos (by first | assumption | omega | (intro hk; exact hk.2.1 (by assumption)) | (intro hk; exact hk.2 (by assumption)))] | rw [if_neg (by first | assumption | omega | (intro hk; exact hk ⟨by omega, by assumption, by omega⟩) | (intro hk; exact hk ⟨by omega, by assumption⟩))])) dX8_put_62
            · refine lv_aload_n hx hb dX8_put_49 rfl (lv_at hl 0 rfl) ?_
              refine lv_iload_n hx hb dX8_put_50 rfl (lv_at hl 2 rfl) ?_
              refine lv_aload_n hx hb dX8_put_51 rfl (lv_at hl 0 rfl) ?_
              refine lv_iload_n hx hb dX8_put_52 rfl (lv_at hl 1 rfl) ?_
              refine z_iconst hx hb dX8_put_53 ?_
              refine lv_iload_n hx hb dX8_put_54 rfl (lv_at hl 2 rfl) ?_
              refine z_iconst hx hb dX8_put_55 ?_
              refine m_callW (n := 4) (As := [.int (iI (a)), .int (iI (0)), .int (iI (x)), .int (iI (0))]) (rest := [.int (iI (x)), .ref (ad 0)]) hx hb hml hts hown hK hW hS hz (c8_add_ok l D cI cZ ad τ hI.1 a.toNat a (by omega) 0 (by omega) x (by omega) 0 (by omega) (by omega) (by omega) (by omega) (by omega) (by omega)) gX8_put_X8_add rfl rfl rfl (by decide +kernel) ⟨by decide, by decide⟩ rfl hl.1 rfl (Nat.le_of_ble_eq_true rfl) ⟨Nat.zero_le _, Nat.zero_le _⟩ dX8_put_56 (fun H locs hW hS hz => ?_)
              have htk := hI.tk (j := x.toNat) (by omega) (by omega)
              have hq16 : (0 : Int) ≤ τ 16 x.toNat ∧ τ 16 x.toNat ≤ 4 := hI.1 16 x.toNat
              have h19 : (0 : Int) ≤ τ 19 a.toNat ∧ τ 19 a.toNat ≤ 16 := hI.1 19 a.toNat
              have hR := Rng.tu (c := 20) (i := 16 * a.toNat + (τ 19 a.toNat).toNat) (v := 0) hR (show (0 : Int) ≤ 0 from by omega) (show 0 ≤ 3 from by omega)
              have hR := Rng.tu (c := 21) (i := 16 * a.toNat + (τ 19 a.toNat).toNat) (v := x) hR (show (0 : Int) ≤ x from by omega) (show x ≤ 100000 from by omega)
              have hR := Rng.tu (c := 22) (i := 16 * a.toNat + (τ 19 a.toNat).toNat) (v := 0) hR (show (0 : Int) ≤ 0 from by omega) (show 0 ≤ 10000 from by omega)
              have hR := Rng.tu (c := 19) (i := a.toNat) (v := τ 19 a.toNat + 1) hR (show (0 : Int) ≤ τ 19 a.toNat + 1 from by omega) (show τ 19 a.toNat + 1 ≤ 16 from by omega)
              refine m_callW (n := 2) (As := [.int (iI (x)), .int (iI (τ 19 a.toNat))]) (rest := []) hx hb hml hts hown hK hW hS hz (c8_quarter_ok l D cI cZ ad (tu (tu (tu (tu τ 20 (16 * a.toNat + (τ 19 a.toNat).toNat) 0) 21 (16 * a.toNat + (τ 19 a.toNat).toNat) x) 22 (16 * a.toNat + (τ 19 a.toNat).toNat) 0) 19 a.toNat (τ 19 a.toNat + 1)) hR x.toNat x (by omega) (τ 19 a.toNat) (by omega) (by omega) (by omega) (by rw [tu_n (by decide), tu_n (by decide), tu_n (by decide), tu_n (by decide)]; omega) (by rw [tu_n (by decide), tu_n (by decide), tu_n (by decide), tu_n (by decide)]; omega)) gX8_put_X8_quarter rfl rfl rfl (by decide +kernel) ⟨by decide, by decide⟩ rfl hl.1 rfl (Nat.le_of_ble_eq_true rfl) ⟨Nat.zero_le _, Nat.zero_le _⟩ dX8_put_59 (fun H locs hW hS hz => ?_)
              exact m_iret hx hb hr hlocks (by first | (unfold stPut; rw [if_neg (fun hk => hk.2.2 hf)]; exact hW) | (unfold stPut; rw [if_pos ⟨by omega, ⟨by omega, by assumption, by omega⟩, hf⟩]; exact hW)) hS hz (by unfold spPut; repeat (first | rw [if_pos (by first | assumption | omega | (intro hk; exact hk.2.1 (by assumption)) | (intro hk; exact hk.2 (by assumption)))] | rw [if_neg (by first | assumption | omega | (intro hk; exact hk ⟨by omega, by assumption, by omega⟩) | (intro hk; exact hk ⟨by omega, by assumption⟩))])) dX8_put_62
          · refine z_bipush hx hb dX8_put_46 (by decide) ?_
            exact m_iret hx hb hr hlocks (by unfold stPut; rw [if_neg (fun hk => by first | omega | exact hk.2.1.2.1 (by assumption) | exact hk.2.2.1.2 (by assumption) | exact hk.2.1 (by assumption) | exact hk.2.2.1 (by assumption))]; exact hW) hS hz (by unfold spPut; repeat (first | rw [if_pos (by first | assumption | omega | (intro hk; exact hk.2.1 (by assumption)) | (intro hk; exact hk.2 (by assumption)))] | rw [if_neg (by first | assumption | omega | (intro hk; exact hk ⟨by omega, by assumption, by omega⟩) | (intro hk; exact hk ⟨by omega, by assumption⟩))])) dX8_put_48
    · refine z_bipush hx hb dX8_put_16 (by decide) ?_
      exact m_iret hx hb hr hlocks (by unfold stPut; rw [if_neg (fun hk => by first | omega | exact hk.2.1.2.1 (by assumption) | exact hk.2.2.1.2 (by assumption) | exact hk.2.1 (by assumption) | exact hk.2.2.1 (by assumption))]; exact hW) hS hz (by unfold spPut; repeat (first | rw [if_pos (by first | assumption | omega | (intro hk; exact hk.2.1 (by assumption)) | (intro hk; exact hk.2 (by assumption)))] | rw [if_neg (by first | assumption | omega | (intro hk; exact hk ⟨by omega, by assumption, by omega⟩) | (intro hk; exact hk ⟨by omega, by assumption⟩))])) dX8_put_18
set_option maxHeartbeats 4000000 in
set_option maxRecDepth 100000 in
theorem c8_standard (l : Launch) (D : va_G) (cI cZ : ClassId) (ad : Nat → Nat) (τ : Tau) (hI : Rng τ) (a : Int) (h_a : I32 a) (u : Int) (h_u : I32 u) (v : Int) (h_v : I32 v)  : Met l yX8_standard wsX8_standard { frames := 2, cells := 0, slots := 0, locals := 46 } (mPc D cI cZ ad τ [.ref (ad 0), .int (iI (a)), .int (iI (u)), .int (iI (v))]) (mQ D cI cZ ad (some (.int (iI (spStd τ a u v)))) (stStd τ a u v)) 0 0 (MA ad) := by
  refine m_start (by decide) rfl (Nat.le_of_ble_eq_true rfl) ?_
  intro p e s m below meth c hx hb hr hlocks hml hts hown hW hK ls hl
  have hin8 : ∀ w ∈ wsX80, w ∈ wsX8_standard := by decide +kernel
  have hS : va_S (MA ad) s.heap s.heap [] := va_S.rf
  have hz : s.heap.size = s.heap.size := rfl
  have hR : Rng τ := hI
  have hl : lv_has ls 4 [(0, .ref (ad 0)), (1, .int (iI (a))), (2, .int (iI (u))), (3, .int (iI (v)))] := hl
  refine lv_aload_n hx hb dX8_standard_0 rfl (lv_at hl 0 rfl) ?_
  refine lv_iload_n hx hb dX8_standard_1 rfl (lv_at hl 1 rfl) ?_
  refine m_call (n := 1) (As := [.int (iI (a))]) (rest := []) hx hb hml hts hown hK hW (c8_isBatch l D cI cZ ad τ hI a (by omega)) gX8_standard_X8_isBatch rfl rfl rfl (by decide +kernel) ⟨by decide, by decide⟩ rfl hl.1 rfl (Nat.le_of_ble_eq_true rfl) ⟨Nat.zero_le _, Nat.zero_le _⟩ dX8_standard_2 ?_
  have r1 := (show (0 : Int) ≤ τ 18 0 ∧ τ 18 0 ≤ 6 from hI 18 0)
  refine z_if_neB (tgt := 11) hx hb dX8_standard_5 (by decide) (fun c2 => ?_) (fun c2 => ?_)
  · refine lv_iload_n hx hb dX8_standard_11 rfl (lv_at hl 2 rfl) ?_
    refine z_i2l hx hb (by omega) dX8_standard_12 ?_
    refine z_lconst (n := 0) hx hb (by decide) dX8_standard_13 ?_
    refine z_ldc2 (n := 100000) hx hb hown (hts (.constantLong RX8 116 (100000)) (by decide +kernel)) (by decide) dX8_standard_14 ?_
    refine s_call (n := 3) (As := [.long (lL (u)), .long (lL (0)), .long (lL (100000))]) (rest := []) hx hb hml hts hown (c8_in l u (by omega) 0 (by omega) 100000 (by omega)) gX8_standard_X8_in rfl rfl rfl (by decide +kernel) ⟨by decide, by decide⟩ rfl hl.1 rfl (Nat.le_of_ble_eq_true rfl) ⟨Nat.zero_le _, Nat.zero_le _⟩ dX8_standard_17 ?_
    refine z_if_eqB (tgt := 35) hx hb dX8_standard_20 (by decide) (fun c3 => ?_) (fun c3 => ?_)
    · refine z_bipush hx hb dX8_standard_35 (by decide) ?_
      exact m_iret hx hb hr hlocks (by unfold stStd; rw [if_neg (fun hk => by first | omega | exact hk.1 (by assumption) | exact hk.2.1 (by assumption) | exact hk.2.2.1 (by assumption) | exact hk.2.2.2.1 (by assumption) | exact hk.2.2.2 (by assumption) | exact hk.2.2.2.2 (by assumption))]; exact hW) hS hz (by unfold spStd; repeat (first | rw [if_pos (by first | assumption | omega)] | rw [if_neg (by first | assumption | omega | (intro hk; exact hk (by assumption)))])) dX8_standard_37
    · refine lv_iload_n hx hb dX8_standard_23 rfl (lv_at hl 3 rfl) ?_
      refine z_i2l hx hb (by omega) dX8_standard_24 ?_
      refine z_lconst (n := 0) hx hb (by decide) dX8_standard_25 ?_
      refine z_ldc2 (n := 10000) hx hb hown (hts (.constantLong RX8 157 (10000)) (by decide +kernel)) (by decide) dX8_standard_26 ?_
      refine s_call (n := 3) (As := [.long (lL (v)), .long (lL (0)), .long (lL (10000))]) (rest := []) hx hb hml hts hown (c8_in l v (by omega) 0 (by omega) 10000 (by omega)) gX8_standard_X8_in rfl rfl rfl (by decide +kernel) ⟨by decide, by decide⟩ rfl hl.1 rfl (Nat.le_of_ble_eq_true rfl) ⟨Nat.zero_le _, Nat.zero_le _⟩ dX8_standard_29 ?_
      refine z_if_neB (tgt := 38) hx hb dX8_standard_32 (by decide) (fun c4 => ?_) (fun c4 => ?_)
      · refine lv_aload_n hx hb dX8_standard_38 rfl (lv_at hl 0 rfl) ?_
        refine lv_iload_n hx hb dX8_standard_39 rfl (lv_at hl 1 rfl) ?_
        refine m_call (n := 1) (As := [.int (iI (a))]) (rest := []) hx hb hml hts hown hK hW (c8_hasResults l D cI cZ ad τ hI a.toNat a (by omega) (by omega)) gX8_standard_X8_hasResults rfl rfl rfl (by decide +kernel) ⟨by decide, by decide⟩ rfl hl.1 rfl (Nat.le_of_ble_eq_true rfl) ⟨Nat.zero_le _, Nat.zero_le _⟩ dX8_standard_40 ?_
        refine z_if_eqB (tgt := 51) hx hb dX8_standard_43 (by decide) (fun c5 => ?_) (fun c5 => ?_)
        · by_cases hf : τ 19 a.toNat = 16
          · refine lv_aload_n hx hb dX8_standard_51 rfl (lv_at hl 0 rfl) ?_
            refine lv_iload_n hx hb dX8_standard_52 rfl (lv_at hl 1 rfl) ?_
            refine z_iconst hx hb dX8_standard_53 ?_
            refine lv_iload_n hx hb dX8_standard_54 rfl (lv_at hl 2 rfl) ?_
            refine lv_iload_n hx hb dX8_standard_55 rfl (lv_at hl 3 rfl) ?_
            refine m_callW (n := 4) (As := [.int (iI (a)), .int (iI (1)), .int (iI (u)), .int (iI (v))]) (rest := []) hx hb hml hts hown hK hW hS hz (c8_add_full l D cI cZ ad τ hI a.toNat a (by omega) 1 (by omega) u (by omega) v (by omega) (by omega) (by omega)) gX8_standard_X8_add rfl rfl rfl (by decide +kernel) ⟨by decide, by decide⟩ rfl hl.1 rfl (Nat.le_of_ble_eq_true rfl) ⟨Nat.zero_le _, Nat.zero_le _⟩ dX8_standard_56 (fun H locs hW hS hz => ?_)
            exact m_iret hx hb hr hlocks (by first | (unfold stStd; rw [if_neg (fun hk => by first | omega | exact hk.1 (by assumption) | exact hk.2.1 (by assumption) | exact hk.2.2.1 (by assumption) | exact hk.2.2.2.1 (by assumption) | exact hk.2.2.2 (by assumption) | exact hk.2.2.2.2 (by assumption))]; exact hW) | (unfold stStd; rw [if_pos ⟨by omega, by omega, by assumption, by assumption⟩]; exact hW)) hS hz (by unfold spStd; repeat (first | rw [if_pos (by first | assumption | omega)] | rw [if_neg (by first | assumption | omega | (intro hk; exact hk (by assumption)))])) dX8_standard_59
          · refine lv_aload_n hx hb dX8_standard_51 rfl (lv_at hl 0 rfl) ?_
            refine lv_iload_n hx hb dX8_standard_52 rfl (lv_at hl 1 rfl) ?_
            refine z_iconst hx hb dX8_standard_53 ?_
            refine lv_iload_n hx hb dX8_standard_54 rfl (lv_at hl 2 rfl) ?_
            refine lv_iload_n hx hb dX8_standard_55 rfl (lv_at hl 3 rfl) ?_
            refine m_callW (n := 4) (As := [.int (iI (a)), .int (iI (1)), .int (iI (u)), .int (iI (v))]) (rest := []) hx hb hml hts hown hK hW hS hz (c8_add_ok l D cI cZ ad τ hI a.toNat a (by omega) 1 (by omega) u (by omega) v (by omega) (by omega) (by omega) (by omega) (by omega) (by omega)) gX8_standard_X8_add rfl rfl rfl (by decide +kernel) ⟨by decide, by decide⟩ rfl hl.1 rfl (Nat.le_of_ble_eq_true rfl) ⟨Nat.zero_le _, Nat.zero_le _⟩ dX8_standard_56 (fun H locs hW hS hz => ?_)
            exact m_iret hx hb hr hlocks (by first | (unfold stStd; rw [if_neg (fun hk => by first | omega | exact hk.1 (by assumption) | exact hk.2.1 (by assumption) | exact hk.2.2.1 (by assumption) | exact hk.2.2.2.1 (by assumption) | exact hk.2.2.2 (by assumption) | exact hk.2.2.2.2 (by assumption))]; exact hW) | (unfold stStd; rw [if_pos ⟨by omega, by omega, by assumption, by assumption⟩]; exact hW)) hS hz (by unfold spStd; repeat (first | rw [if_pos (by first | assumption | omega)] | rw [if_neg (by first | assumption | omega | (intro hk; exact hk (by assumption)))])) dX8_standard_59
        · refine z_bipush hx hb dX8_standard_46 (by decide) ?_
          refine lv_goto (tgt := 59) hx hb dX8_standard_48 (by decide) ?_
          exact m_iret hx hb hr hlocks (by first | (unfold stStd; rw [if_neg (fun hk => by first | omega | exact hk.1 (by assumption) | exact hk.2.1 (by assumption) | exact hk.2.2.1 (by assumption) | exact hk.2.2.2.1 (by assumption) | exact hk.2.2.2 (by assumption) | exact hk.2.2.2.2 (by assumption))]; exact hW) | (unfold stStd; rw [if_pos ⟨by omega, by omega, by assumption, by assumption⟩]; exact hW)) hS hz (by unfold spStd; repeat (first | rw [if_pos (by first | assumption | omega)] | rw [if_neg (by first | assumption | omega | (intro hk; exact hk (by assumption)))])) dX8_standard_59
      · refine z_bipush hx hb dX8_standard_35 (by decide) ?_
        exact m_iret hx hb hr hlocks (by unfold stStd; rw [if_neg (fun hk => by first | omega | exact hk.1 (by assumption) | exact hk.2.1 (by assumption) | exact hk.2.2.1 (by assumption) | exact hk.2.2.2.1 (by assumption) | exact hk.2.2.2 (by assumption) | exact hk.2.2.2.2 (by assumption))]; exact hW) hS hz (by unfold spStd; repeat (first | rw [if_pos (by first | assumption | omega)] | rw [if_neg (by first | assumption | omega | (intro hk; exact hk (by assumption)))])) dX8_standard_37
  · refine z_bipush hx hb dX8_standard_8 (by decide) ?_
    exact m_iret hx hb hr hlocks (by unfold stStd; rw [if_neg (fun hk => by first | omega | exact hk.1 (by assumption) | exact hk.2.1 (by assumption) | exact hk.2.2.1 (by assumption) | exact hk.2.2.2.1 (by assumption) | exact hk.2.2.2 (by assumption) | exact hk.2.2.2.2 (by assumption))]; exact hW) hS hz (by unfold spStd; repeat (first | rw [if_pos (by first | assumption | omega)] | rw [if_neg (by first | assumption | omega | (intro hk; exact hk (by assumption)))])) dX8_standard_10
set_option maxHeartbeats 4000000 in
set_option maxRecDepth 100000 in
theorem c8_blank (l : Launch) (D : va_G) (cI cZ : ClassId) (ad : Nat → Nat) (τ : Tau) (hI : Rng τ) (a : Int) (h_a : I32 a)  : Met l yX8_blank wsX8_blank { frames := 2, cells := 0, slots := 0, locals := 46 } (mPc D cI cZ ad τ [.ref (ad 0), .int (iI (a))]) (mQ D cI cZ ad (some (.int (iI (spBlank τ a)))) (stBlank τ a)) 0 0 (MA ad) := by
  refine m_start (by decide) rfl (Nat.le_of_ble_eq_true rfl) ?_
  intro p e s m below meth c hx hb hr hlocks hml hts hown hW hK ls hl
  have hin8 : ∀ w ∈ wsX80, w ∈ wsX8_blank := by decide +kernel
  have hS : va_S (MA ad) s.heap s.heap [] := va_S.rf
  have hz : s.heap.size = s.heap.size := rfl
  have hR : Rng τ := hI
  have hl : lv_has ls 2 [(0, .ref (ad 0)), (1, .int (iI (a)))] := hl
  refine lv_aload_n hx hb dX8_blank_0 rfl (lv_at hl 0 rfl) ?_
  refine lv_iload_n hx hb dX8_blank_1 rfl (lv_at hl 1 rfl) ?_
  refine m_call (n := 1) (As := [.int (iI (a))]) (rest := []) hx hb hml hts hown hK hW (c8_isBatch l D cI cZ ad τ hI a (by omega)) gX8_blank_X8_isBatch rfl rfl rfl (by decide +kernel) ⟨by decide, by decide⟩ rfl hl.1 rfl (Nat.le_of_ble_eq_true rfl) ⟨Nat.zero_le _, Nat.zero_le _⟩ dX8_blank_2 ?_
  have r1 := (show (0 : Int) ≤ τ 18 0 ∧ τ 18 0 ≤ 6 from hI 18 0)
  refine z_if_neB (tgt := 11) hx hb dX8_blank_5 (by decide) (fun c2 => ?_) (fun c2 => ?_)
  · refine lv_aload_n hx hb dX8_blank_11 rfl (lv_at hl 0 rfl) ?_
    refine lv_iload_n hx hb dX8_blank_12 rfl (lv_at hl 1 rfl) ?_
    refine m_call (n := 1) (As := [.int (iI (a))]) (rest := []) hx hb hml hts hown hK hW (c8_hasResults l D cI cZ ad τ hI a.toNat a (by omega) (by omega)) gX8_blank_X8_hasResults rfl rfl rfl (by decide +kernel) ⟨by decide, by decide⟩ rfl hl.1 rfl (Nat.le_of_ble_eq_true rfl) ⟨Nat.zero_le _, Nat.zero_le _⟩ dX8_blank_13 ?_
    refine z_if_eqB (tgt := 24) hx hb dX8_blank_16 (by decide) (fun c3 => ?_) (fun c3 => ?_)
    · by_cases hf : τ 19 a.toNat = 16
      · refine lv_aload_n hx hb dX8_blank_24 rfl (lv_at hl 0 rfl) ?_
        refine lv_iload_n hx hb dX8_blank_25 rfl (lv_at hl 1 rfl) ?_
        refine z_iconst hx hb dX8_blank_26 ?_
        refine z_iconst hx hb dX8_blank_27 ?_
        refine z_iconst hx hb dX8_blank_28 ?_
        refine m_callW (n := 4) (As := [.int (iI (a)), .int (iI (2)), .int (iI (0)), .int (iI (0))]) (rest := []) hx hb hml hts hown hK hW hS hz (c8_add_full l D cI cZ ad τ hI a.toNat a (by omega) 2 (by omega) 0 (by omega) 0 (by omega) (by omega) (by omega)) gX8_blank_X8_add rfl rfl rfl (by decide +kernel) ⟨by decide, by decide⟩ rfl hl.1 rfl (Nat.le_of_ble_eq_true rfl) ⟨Nat.zero_le _, Nat.zero_le _⟩ dX8_blank_29 (fun H locs hW hS hz => ?_)
        exact m_iret hx hb hr hlocks (by first | (unfold stBlank; rw [if_neg (fun hk => by first | omega | exact hk.1 (by assumption) | exact hk.2.1 (by assumption) | exact hk.2.2.1 (by assumption) | exact hk.2.2.2.1 (by assumption) | exact hk.2.2.2 (by assumption) | exact hk.2.2.2.2 (by assumption))]; exact hW) | (unfold stBlank; rw [if_pos ⟨by omega, by assumption, by assumption⟩]; exact hW)) hS hz (by unfold spBlank; repeat (first | rw [if_pos (by first | assumption | omega)] | rw [if_neg (by first | assumption | omega | (intro hk; exact hk (by assumption)))])) dX8_blank_32
      · refine lv_aload_n hx hb dX8_blank_24 rfl (lv_at hl 0 rfl) ?_
        refine lv_iload_n hx hb dX8_blank_25 rfl (lv_at hl 1 rfl) ?_
        refine z_iconst hx hb dX8_blank_26 ?_
        refine z_iconst hx hb dX8_blank_27 ?_
        refine z_iconst hx hb dX8_blank_28 ?_
        refine m_callW (n := 4) (As := [.int (iI (a)), .int (iI (2)), .int (iI (0)), .int (iI (0))]) (rest := []) hx hb hml hts hown hK hW hS hz (c8_add_ok l D cI cZ ad τ hI a.toNat a (by omega) 2 (by omega) 0 (by omega) 0 (by omega) (by omega) (by omega) (by omega) (by omega) (by omega)) gX8_blank_X8_add rfl rfl rfl (by decide +kernel) ⟨by decide, by decide⟩ rfl hl.1 rfl (Nat.le_of_ble_eq_true rfl) ⟨Nat.zero_le _, Nat.zero_le _⟩ dX8_blank_29 (fun H locs hW hS hz => ?_)
        exact m_iret hx hb hr hlocks (by first | (unfold stBlank; rw [if_neg (fun hk => by first | omega | exact hk.1 (by assumption) | exact hk.2.1 (by assumption) | exact hk.2.2.1 (by assumption) | exact hk.2.2.2.1 (by assumption) | exact hk.2.2.2 (by assumption) | exact hk.2.2.2.2 (by assumption))]; exact hW) | (unfold stBlank; rw [if_pos ⟨by omega, by assumption, by assumption⟩]; exact hW)) hS hz (by unfold spBlank; repeat (first | rw [if_pos (by first | assumption | omega)] | rw [if_neg (by first | assumption | omega | (intro hk; exact hk (by assumption)))])) dX8_blank_32
    · refine z_bipush hx hb dX8_blank_19 (by decide) ?_
      refine lv_goto (tgt := 32) hx hb dX8_blank_21 (by decide) ?_
      exact m_iret hx hb hr hlocks (by first | (unfold stBlank; rw [if_neg (fun hk => by first | omega | exact hk.1 (by assumption) | exact hk.2.1 (by assumption) | exact hk.2.2.1 (by assumption) | exact hk.2.2.2.1 (by assumption) | exact hk.2.2.2 (by assumption) | exact hk.2.2.2.2 (by assumption))]; exact hW) | (unfold stBlank; rw [if_pos ⟨by omega, by assumption, by assumption⟩]; exact hW)) hS hz (by unfold spBlank; repeat (first | rw [if_pos (by first | assumption | omega)] | rw [if_neg (by first | assumption | omega | (intro hk; exact hk (by assumption)))])) dX8_blank_32
  · refine z_bipush hx hb dX8_blank_8 (by decide) ?_
    exact m_iret hx hb hr hlocks (by unfold stBlank; rw [if_neg (fun hk => by first | omega | exact hk.1 (by assumption) | exact hk.2.1 (by assumption) | exact hk.2.2.1 (by assumption) | exact hk.2.2.2.1 (by assumption) | exact hk.2.2.2 (by assumption) | exact hk.2.2.2.2 (by assumption))]; exact hW) hS hz (by unfold spBlank; repeat (first | rw [if_pos (by first | assumption | omega)] | rw [if_neg (by first | assumption | omega | (intro hk; exact hk (by assumption)))])) dX8_blank_10
set_option maxHeartbeats 4000000 in
set_option maxRecDepth 100000 in
theorem c8_twice (l : Launch) (D : va_G) (cI cZ : ClassId) (ad : Nat → Nat) (τ : Tau) (hI : Inv τ) (a : Int) (h_a : I32 a) (u : Int) (h_u : I32 u)  : Met l yX8_twice wsX8_twice { frames := 3, cells := 0, slots := 0, locals := 68 } (mPc D cI cZ ad τ [.ref (ad 0), .int (iI (a)), .int (iI (u))]) (mQ D cI cZ ad (some (.int (iI (spTwice τ a u)))) (stTwice τ a u)) 0 0 (MA ad) := by
  refine m_start (by decide) rfl (Nat.le_of_ble_eq_true rfl) ?_
  intro p e s m below meth c hx hb hr hlocks hml hts hown hW hK ls hl
  have hin8 : ∀ w ∈ wsX80, w ∈ wsX8_twice := by decide +kernel
  have hS : va_S (MA ad) s.heap s.heap [] := va_S.rf
  have hz : s.heap.size = s.heap.size := rfl
  have hR : Rng τ := hI.1
  have hl : lv_has ls 4 [(0, .ref (ad 0)), (1, .int (iI (a))), (2, .int (iI (u)))] := hl
  refine lv_aload_n hx hb dX8_twice_0 rfl (lv_at hl 0 rfl) ?_
  refine lv_iload_n hx hb dX8_twice_1 rfl (lv_at hl 1 rfl) ?_
  refine lv_iload_n hx hb dX8_twice_2 rfl (lv_at hl 2 rfl) ?_
  refine m_call (n := 2) (As := [.int (iI (a)), .int (iI (u))]) (rest := []) hx hb hml hts hown hK hW (c8_isPlace l D cI cZ ad τ hI.1 a (by omega) u (by omega)) gX8_twice_X8_isPlace rfl rfl rfl (by decide +kernel) ⟨by decide, by decide⟩ rfl hl.1 rfl (Nat.le_of_ble_eq_true rfl) ⟨Nat.zero_le _, Nat.zero_le _⟩ dX8_twice_3 ?_
  have r1 := (show (0 : Int) ≤ τ 18 0 ∧ τ 18 0 ≤ 6 from hI.1 18 0)
  have r2 := (show (0 : Int) ≤ τ 19 a.toNat ∧ τ 19 a.toNat ≤ 16 from hI.1 19 a.toNat)
  refine z_if_neB (tgt := 12) hx hb dX8_twice_6 (by decide) (fun c3 => ?_) (fun c3 => ?_)
  · refine lv_aload_n hx hb dX8_twice_12 rfl (lv_at hl 0 rfl) ?_
    refine m_get hx hb hts hin8 hown hK hW 20 (by decide) (hts _ (by decide +kernel)) (v := .ref (ad 20)) rfl dX8_twice_13 ?_
    refine z_bipush hx hb dX8_twice_16 (by decide) ?_
    refine lv_iload_n hx hb dX8_twice_18 rfl (lv_at hl 1 rfl) ?_
    refine z_imul hx hb dX8_twice_19 ?_
    refine lv_iload_n hx hb dX8_twice_20 rfl (lv_at hl 2 rfl) ?_
    refine z_iadd hx hb dX8_twice_21 ?_
    refine m_ald (d := 20) (j := (16 * a.toNat) + u.toNat) hx hb hK hW rfl (by omega) (show (16 * a.toNat) + u.toNat < 96 from by omega) dX8_twice_22 ?_
    have r4 : (0 : Int) ≤ τ 20 ((16 * a.toNat) + u.toNat) ∧ τ 20 ((16 * a.toNat) + u.toNat) ≤ 3 := hI.1 20 ((16 * a.toNat) + u.toNat)
    refine z_if_eq (tgt := 29) hx hb (by omega) dX8_twice_23 (by decide) (fun c5 => ?_) (fun c5 => ?_)
    · refine lv_aload_n hx hb dX8_twice_29 rfl (lv_at hl 0 rfl) ?_
      refine m_get hx hb hts hin8 hown hK hW 21 (by decide) (hts _ (by decide +kernel)) (v := .ref (ad 21)) rfl dX8_twice_30 ?_
      refine z_bipush hx hb dX8_twice_33 (by decide) ?_
      refine lv_iload_n hx hb dX8_twice_35 rfl (lv_at hl 1 rfl) ?_
      refine z_imul hx hb dX8_twice_36 ?_
      refine lv_iload_n hx hb dX8_twice_37 rfl (lv_at hl 2 rfl) ?_
      refine z_iadd hx hb dX8_twice_38 ?_
      refine m_ald (d := 21) (j := (16 * a.toNat) + u.toNat) hx hb hK hW rfl (by omega) (show (16 * a.toNat) + u.toNat < 96 from by omega) dX8_twice_39 ?_
      have r6 : (0 : Int) ≤ τ 21 ((16 * a.toNat) + u.toNat) ∧ τ 21 ((16 * a.toNat) + u.toNat) ≤ 100000 := hI.1 21 ((16 * a.toNat) + u.toNat)
      refine lv_istore_n (lv' := [(3, .int (iI (τ 21 ((16 * a.toNat) + u.toNat)))), (0, .ref (ad 0)), (1, .int (iI (a))), (2, .int (iI (u)))]) hx hb dX8_twice_40 rfl hl (by decide) rfl (fun ls hl => ?_)
      have hwh := (hI.2.2.2.1 a.toNat u.toNat (by omega) (by omega)).2 (by omega)
      have h12 : (0 : Int) ≤ τ 12 0 ∧ τ 12 0 ≤ 30 := hI.1 12 0
      refine lv_aload_n hx hb dX8_twice_41 rfl (lv_at hl 1 rfl) ?_
      refine m_get hx hb hts hin8 hown hK hW 16 (by decide) (hts _ (by decide +kernel)) (v := .ref (ad 16)) rfl dX8_twice_42 ?_
      refine lv_iload_n hx hb dX8_twice_45 rfl (lv_at hl 0 rfl) ?_
      refine m_ald (d := 16) (j := (τ 21 ((16 * a.toNat) + u.toNat)).toNat) hx hb hK hW rfl (by omega) (show (τ 21 ((16 * a.toNat) + u.toNat)).toNat < 30 from by omega) dX8_twice_46 ?_
      have r7 : (0 : Int) ≤ τ 16 ((τ 21 ((16 * a.toNat) + u.toNat)).toNat) ∧ τ 16 ((τ 21 ((16 * a.toNat) + u.toNat)).toNat) ≤ 4 := hI.1 16 ((τ 21 ((16 * a.toNat) + u.toNat)).toNat)
      refine z_if_eq (tgt := 58) hx hb (by omega) dX8_twice_47 (by decide) (fun c8 => ?_) (fun c8 => ?_)
      · refine z_bipush hx hb dX8_twice_58 (by decide) ?_
        exact m_iret hx hb hr hlocks (by unfold stTwice; rw [if_neg (fun hk => by first | omega | exact hk.2.1.2.1 (by assumption) | exact hk.2.2.1.2 (by assumption) | exact hk.2.1 (by assumption) | exact hk.2.2.1 (by assumption))]; exact hW) hS hz (by unfold spTwice; repeat (first | rw [if_pos (by first | assumption | omega | (intro hk; exact hk.2.1 (by assumption)) | (intro hk; exact hk.2 (by assumption)))] | rw [if_neg (by first | assumption | omega | (intro hk; exact hk ⟨by omega, by assumption, by omega⟩) | (intro hk; exact hk ⟨by omega, by assumption⟩))])) dX8_twice_60
      · refine lv_aload_n hx hb dX8_twice_50 rfl (lv_at hl 1 rfl) ?_
        refine lv_iload_n hx hb dX8_twice_51 rfl (lv_at hl 2 rfl) ?_
        refine m_call (n := 1) (As := [.int (iI (a))]) (rest := []) hx hb hml hts hown hK hW (c8_hasResults l D cI cZ ad τ hI.1 a.toNat a (by omega) (by omega)) gX8_twice_X8_hasResults rfl rfl rfl (by decide +kernel) ⟨by decide, by decide⟩ rfl hl.1 rfl (Nat.le_of_ble_eq_true rfl) ⟨Nat.zero_le _, Nat.zero_le _⟩ dX8_twice_52 ?_
        refine z_if_eqB (tgt := 61) hx hb dX8_twice_55 (by decide) (fun c9 => ?_) (fun c9 => ?_)
        · by_cases hf : τ 19 a.toNat = 16
          · refine lv_aload_n hx hb dX8_twice_61 rfl (lv_at hl 1 rfl) ?_
            refine lv_iload_n hx hb dX8_twice_62 rfl (lv_at hl 0 rfl) ?_
            refine lv_aload_n hx hb dX8_twice_63 rfl (lv_at hl 1 rfl) ?_
            refine lv_iload_n hx hb dX8_twice_64 rfl (lv_at hl 2 rfl) ?_
            refine z_iconst hx hb dX8_twice_65 ?_
            refine lv_iload_n hx hb dX8_twice_66 rfl (lv_at hl 3 rfl) ?_
            refine z_iconst hx hb dX8_twice_67 ?_
            refine m_callW (n := 4) (As := [.int (iI (a)), .int (iI (3)), .int (iI (u)), .int (iI (0))]) (rest := [.int (iI (τ 21 ((16 * a.toNat) + u.toNat))), .ref (ad 0)]) hx hb hml hts hown hK hW hS hz (c8_add_full l D cI cZ ad τ hI.1 a.toNat a (by omega) 3 (by omega) u (by omega) 0 (by omega) (by omega) (by omega)) gX8_twice_X8_add rfl rfl rfl (by decide +kernel) ⟨by decide, by decide⟩ rfl hl.1 rfl (Nat.le_of_ble_eq_true rfl) ⟨Nat.zero_le _, Nat.zero_le _⟩ dX8_twice_68 (fun H locs hW hS hz => ?_)
            have h19 : (0 : Int) ≤ τ 19 a.toNat ∧ τ 19 a.toNat ≤ 16 := hI.1 19 a.toNat
            have htk := hI.tk (j := (τ 21 (16 * a.toNat + u.toNat)).toNat) (by omega) (by omega)
            refine m_callW (n := 2) (As := [.int (iI (τ 21 ((16 * a.toNat) + u.toNat))), .int (iI (-104))]) (rest := []) hx hb hml hts hown hK hW hS hz (c8_quarter_no l D cI cZ ad τ hR ((τ 21 ((16 * a.toNat) + u.toNat)).toNat) (τ 21 ((16 * a.toNat) + u.toNat)) (by omega) (-104) (by omega) (by omega) (by omega)) gX8_twice_X8_quarter rfl rfl rfl (by decide +kernel) ⟨by decide, by decide⟩ rfl hl.1 rfl (Nat.le_of_ble_eq_true rfl) ⟨Nat.zero_le _, Nat.zero_le _⟩ dX8_twice_71 (fun H locs hW hS hz => ?_)
            exact m_iret hx hb hr hlocks (by first | (unfold stTwice; rw [if_neg (fun hk => hk.2.2.2 hf)]; exact hW) | (unfold stTwice; rw [if_pos ⟨by omega, by omega, ⟨by omega, by assumption⟩, hf⟩]; exact hW)) hS hz (by unfold spTwice; repeat (first | rw [if_pos (by first | assumption | omega | (intro hk; exact hk.2.1 (by assumption)) | (intro hk; exact hk.2 (by assumption)))] | rw [if_neg (by first | assumption | omega | (intro hk; exact hk ⟨by omega, by assumption, by omega⟩) | (intro hk; exact hk ⟨by omega, by assumption⟩))])) dX8_twice_74
          · refine lv_aload_n hx hb dX8_twice_61 rfl (lv_at hl 1 rfl) ?_
            refine lv_iload_n hx hb dX8_twice_62 rfl (lv_at hl 0 rfl) ?_
            refine lv_aload_n hx hb dX8_twice_63 rfl (lv_at hl 1 rfl) ?_
            refine lv_iload_n hx hb dX8_twice_64 rfl (lv_at hl 2 rfl) ?_
            refine z_iconst hx hb dX8_twice_65 ?_
            refine lv_iload_n hx hb dX8_twice_66 rfl (lv_at hl 3 rfl) ?_
            refine z_iconst hx hb dX8_twice_67 ?_
            refine m_callW (n := 4) (As := [.int (iI (a)), .int (iI (3)), .int (iI (u)), .int (iI (0))]) (rest := [.int (iI (τ 21 ((16 * a.toNat) + u.toNat))), .ref (ad 0)]) hx hb hml hts hown hK hW hS hz (c8_add_ok l D cI cZ ad τ hI.1 a.toNat a (by omega) 3 (by omega) u (by omega) 0 (by omega) (by omega) (by omega) (by omega) (by omega) (by omega)) gX8_twice_X8_add rfl rfl rfl (by decide +kernel) ⟨by decide, by decide⟩ rfl hl.1 rfl (Nat.le_of_ble_eq_true rfl) ⟨Nat.zero_le _, Nat.zero_le _⟩ dX8_twice_68 (fun H locs hW hS hz => ?_)
            have h19 : (0 : Int) ≤ τ 19 a.toNat ∧ τ 19 a.toNat ≤ 16 := hI.1 19 a.toNat
            have htk := hI.tk (j := (τ 21 (16 * a.toNat + u.toNat)).toNat) (by omega) (by omega)
            have hR := Rng.tu (c := 20) (i := 16 * a.toNat + (τ 19 a.toNat).toNat) (v := 3) hR (show (0 : Int) ≤ 3 from by omega) (show 3 ≤ 3 from by omega)
            have hR := Rng.tu (c := 21) (i := 16 * a.toNat + (τ 19 a.toNat).toNat) (v := u) hR (show (0 : Int) ≤ u from by omega) (show u ≤ 100000 from by omega)
            have hR := Rng.tu (c := 22) (i := 16 * a.toNat + (τ 19 a.toNat).toNat) (v := 0) hR (show (0 : Int) ≤ 0 from by omega) (show 0 ≤ 10000 from by omega)
            have hR := Rng.tu (c := 19) (i := a.toNat) (v := τ 19 a.toNat + 1) hR (show (0 : Int) ≤ τ 19 a.toNat + 1 from by omega) (show τ 19 a.toNat + 1 ≤ 16 from by omega)
            refine m_callW (n := 2) (As := [.int (iI (τ 21 ((16 * a.toNat) + u.toNat))), .int (iI (τ 19 a.toNat))]) (rest := []) hx hb hml hts hown hK hW hS hz (c8_quarter_ok l D cI cZ ad (tu (tu (tu (tu τ 20 (16 * a.toNat + (τ 19 a.toNat).toNat) 3) 21 (16 * a.toNat + (τ 19 a.toNat).toNat) u) 22 (16 * a.toNat + (τ 19 a.toNat).toNat) 0) 19 a.toNat (τ 19 a.toNat + 1)) hR ((τ 21 ((16 * a.toNat) + u.toNat)).toNat) (τ 21 ((16 * a.toNat) + u.toNat)) (by omega) (τ 19 a.toNat) (by omega) (by omega) (by omega) (by rw [tu_n (by decide), tu_n (by decide), tu_n (by decide), tu_n (by decide)]; omega) (by rw [tu_n (by decide), tu_n (by decide), tu_n (by decide), tu_n (by decide)]; omega)) gX8_twice_X8_quarter rfl rfl rfl (by decide +kernel) ⟨by decide, by decide⟩ rfl hl.1 rfl (Nat.le_of_ble_eq_true rfl) ⟨Nat.zero_le _, Nat.zero_le _⟩ dX8_twice_71 (fun H locs hW hS hz => ?_)
            exact m_iret hx hb hr hlocks (by first | (unfold stTwice; rw [if_neg (fun hk => hk.2.2.2 hf)]; exact hW) | (unfold stTwice; rw [if_pos ⟨by omega, by omega, ⟨by omega, by assumption⟩, hf⟩]; exact hW)) hS hz (by unfold spTwice; repeat (first | rw [if_pos (by first | assumption | omega | (intro hk; exact hk.2.1 (by assumption)) | (intro hk; exact hk.2 (by assumption)))] | rw [if_neg (by first | assumption | omega | (intro hk; exact hk ⟨by omega, by assumption, by omega⟩) | (intro hk; exact hk ⟨by omega, by assumption⟩))])) dX8_twice_74
        · refine z_bipush hx hb dX8_twice_58 (by decide) ?_
          exact m_iret hx hb hr hlocks (by unfold stTwice; rw [if_neg (fun hk => by first | omega | exact hk.2.1.2.1 (by assumption) | exact hk.2.2.1.2 (by assumption) | exact hk.2.1 (by assumption) | exact hk.2.2.1 (by assumption))]; exact hW) hS hz (by unfold spTwice; repeat (first | rw [if_pos (by first | assumption | omega | (intro hk; exact hk.2.1 (by assumption)) | (intro hk; exact hk.2 (by assumption)))] | rw [if_neg (by first | assumption | omega | (intro hk; exact hk ⟨by omega, by assumption, by omega⟩) | (intro hk; exact hk ⟨by omega, by assumption⟩))])) dX8_twice_60
    · refine z_bipush hx hb dX8_twice_26 (by decide) ?_
      exact m_iret hx hb hr hlocks (by unfold stTwice; rw [if_neg (fun hk => by first | omega | exact hk.2.1.2.1 (by assumption) | exact hk.2.2.1.2 (by assumption) | exact hk.2.1 (by assumption) | exact hk.2.2.1 (by assumption))]; exact hW) hS hz (by unfold spTwice; repeat (first | rw [if_pos (by first | assumption | omega | (intro hk; exact hk.2.1 (by assumption)) | (intro hk; exact hk.2 (by assumption)))] | rw [if_neg (by first | assumption | omega | (intro hk; exact hk ⟨by omega, by assumption, by omega⟩) | (intro hk; exact hk ⟨by omega, by assumption⟩))])) dX8_twice_28
  · refine z_bipush hx hb dX8_twice_9 (by decide) ?_
    exact m_iret hx hb hr hlocks (by unfold stTwice; rw [if_neg (fun hk => by first | omega | exact hk.2.1.2.1 (by assumption) | exact hk.2.2.1.2 (by assumption) | exact hk.2.1 (by assumption) | exact hk.2.2.1 (by assumption))]; exact hW) hS hz (by unfold spTwice; repeat (first | rw [if_pos (by first | assumption | omega | (intro hk; exact hk.2.1 (by assumption)) | (intro hk; exact hk.2 (by assumption)))] | rw [if_neg (by first | assumption | omega | (intro hk; exact hk ⟨by omega, by assumption, by omega⟩) | (intro hk; exact hk ⟨by omega, by assumption⟩))])) dX8_twice_11
set_option maxHeartbeats 4000000 in
set_option maxRecDepth 100000 in
theorem c8_law (l : Launch) (D : va_G) (cI cZ : ClassId) (ad : Nat → Nat) (τ : Tau) (hI : Rng τ) (a : Int) (h_a : I32 a) (u : Int) (h_u : I32 u)  : Met l yX8_law wsX8_law { frames := 1, cells := 0, slots := 0, locals := 25 } (mPc D cI cZ ad τ [.ref (ad 0), .int (iI (a)), .int (iI (u))]) (mQ D cI cZ ad (some (.int (iI (spLaw τ a u)))) (stLaw τ a u)) 0 0 (MA ad) := by
  refine m_start (by decide) rfl (Nat.le_of_ble_eq_true rfl) ?_
  intro p e s m below meth c hx hb hr hlocks hml hts hown hW hK ls hl
  have hin8 : ∀ w ∈ wsX80, w ∈ wsX8_law := by decide +kernel
  have hS : va_S (MA ad) s.heap s.heap [] := va_S.rf
  have hz : s.heap.size = s.heap.size := rfl
  have hR : Rng τ := hI
  have hl : lv_has ls 4 [(0, .ref (ad 0)), (1, .int (iI (a))), (2, .int (iI (u)))] := hl
  refine lv_iload_n hx hb dX8_law_0 rfl (lv_at hl 1 rfl) ?_
  refine z_i2l hx hb (by omega) dX8_law_1 ?_
  refine z_lconst (n := 0) hx hb (by decide) dX8_law_2 ?_
  refine z_lconst (n := 1) hx hb (by decide) dX8_law_3 ?_
  refine s_call (n := 3) (As := [.long (lL (a)), .long (lL (0)), .long (lL (1))]) (rest := []) hx hb hml hts hown (c8_in l a (by omega) 0 (by omega) 1 (by omega)) gX8_law_X8_in rfl rfl rfl (by decide +kernel) ⟨by decide, by decide⟩ rfl hl.1 rfl (Nat.le_of_ble_eq_true rfl) ⟨Nat.zero_le _, Nat.zero_le _⟩ dX8_law_4 ?_
  refine z_if_neB (tgt := 13) hx hb dX8_law_7 (by decide) (fun c1 => ?_) (fun c1 => ?_)
  · refine lv_iload_n hx hb dX8_law_13 rfl (lv_at hl 2 rfl) ?_
    refine z_i2l hx hb (by omega) dX8_law_14 ?_
    refine z_lconst (n := 0) hx hb (by decide) dX8_law_15 ?_
    refine z_ldc2 (n := 1000) hx hb hown (hts (.constantLong RX8 95 (1000)) (by decide +kernel)) (by decide) dX8_law_16 ?_
    refine s_call (n := 3) (As := [.long (lL (u)), .long (lL (0)), .long (lL (1000))]) (rest := []) hx hb hml hts hown (c8_in l u (by omega) 0 (by omega) 1000 (by omega)) gX8_law_X8_in rfl rfl rfl (by decide +kernel) ⟨by decide, by decide⟩ rfl hl.1 rfl (Nat.le_of_ble_eq_true rfl) ⟨Nat.zero_le _, Nat.zero_le _⟩ dX8_law_19 ?_
    refine z_if_neB (tgt := 28) hx hb dX8_law_22 (by decide) (fun c2 => ?_) (fun c2 => ?_)
    · refine lv_aload_n hx hb dX8_law_28 rfl (lv_at hl 0 rfl) ?_
      refine m_get hx hb hts hin8 hown hK hW 25 (by decide) (hts _ (by decide +kernel)) (v := .ref (ad 25)) rfl dX8_law_29 ?_
      refine lv_iload_n hx hb dX8_law_32 rfl (lv_at hl 1 rfl) ?_
      refine m_ald (d := 25) (j := a.toNat) hx hb hK hW rfl (by omega) (show a.toNat < 2 from by omega) dX8_law_33 ?_
      have r3 : (0 : Int) ≤ τ 25 a.toNat ∧ τ 25 a.toNat ≤ 1000 := hI 25 a.toNat
      refine lv_istore_n (lv' := [(3, .int (iI (τ 25 a.toNat))), (0, .ref (ad 0)), (1, .int (iI (a))), (2, .int (iI (u)))]) hx hb dX8_law_34 rfl hl (by decide) rfl (fun ls hl => ?_)
      refine lv_aload_n hx hb dX8_law_35 rfl (lv_at hl 1 rfl) ?_
      refine m_get hx hb hts hin8 hown hK hW 25 (by decide) (hts _ (by decide +kernel)) (v := .ref (ad 25)) rfl dX8_law_36 ?_
      refine lv_iload_n hx hb dX8_law_39 rfl (lv_at hl 2 rfl) ?_
      refine lv_iload_n hx hb dX8_law_40 rfl (lv_at hl 3 rfl) ?_
      refine m_ast (d := 25) (j := a.toNat) (v := u) hx hb hK hW hS hz rfl (by omega) (show a.toNat < 2 from by omega) dX8_law_41 (fun H locs hW hS hz => ?_)
      have hR := Rng.tu (c := 25) (i := a.toNat) (v := u) hR (show (0 : Int) ≤ u from by omega) (show u ≤ 1000 from by omega)
      refine lv_iload_n hx hb dX8_law_42 rfl (lv_at hl 0 rfl) ?_
      exact m_iret hx hb hr hlocks (by unfold stLaw; rw [if_pos (by refine ⟨?_, ?_⟩ <;> first | omega | assumption)]; exact hW) hS hz (by unfold spLaw; repeat (first | rw [if_pos (by first | assumption | omega)] | rw [if_neg (by first | assumption | omega | (intro hk; exact hk (by assumption)))])) dX8_law_43
    · refine z_bipush hx hb dX8_law_25 (by decide) ?_
      exact m_iret hx hb hr hlocks (by unfold stLaw; rw [if_neg (fun hk => by first | omega | exact hk.1 (by assumption) | exact hk.2.1 (by assumption) | exact hk.2.2.1 (by assumption) | exact hk.2.2.2.1 (by assumption) | exact hk.2.2.2 (by assumption) | exact hk.2.2.2.2 (by assumption))]; exact hW) hS hz (by unfold spLaw; repeat (first | rw [if_pos (by first | assumption | omega)] | rw [if_neg (by first | assumption | omega | (intro hk; exact hk (by assumption)))])) dX8_law_27
  · refine z_bipush hx hb dX8_law_10 (by decide) ?_
    exact m_iret hx hb hr hlocks (by unfold stLaw; rw [if_neg (fun hk => by first | omega | exact hk.1 (by assumption) | exact hk.2.1 (by assumption) | exact hk.2.2.1 (by assumption) | exact hk.2.2.2.1 (by assumption) | exact hk.2.2.2 (by assumption) | exact hk.2.2.2.2 (by assumption))]; exact hW) hS hz (by unfold spLaw; repeat (first | rw [if_pos (by first | assumption | omega)] | rw [if_neg (by first | assumption | omega | (intro hk; exact hk (by assumption)))])) dX8_law_12
set_option maxHeartbeats 4000000 in
set_option maxRecDepth 100000 in
theorem c8_result (l : Launch) (D : va_G) (cI cZ : ClassId) (ad : Nat → Nat) (τ : Tau) (hI : Rng τ) (a : Int) (h_a : I32 a) (b : Int) (h_b : I32 b) (u : Int) (h_u : I32 u)  : Met l yX8_result wsX8_result { frames := 3, cells := 0, slots := 0, locals := 68 } (mPc D cI cZ ad τ [.ref (ad 0), .int (iI (a)), .int (iI (b)), .int (iI (u))]) (mQ D cI cZ ad (some (.int (iI (spRes τ a b u)))) (stRes τ a b u)) 0 0 (MA ad) := by
  refine m_start (by decide) rfl (Nat.le_of_ble_eq_true rfl) ?_
  intro p e s m below meth c hx hb hr hlocks hml hts hown hW hK ls hl
  have hin8 : ∀ w ∈ wsX80, w ∈ wsX8_result := by decide +kernel
  have hS : va_S (MA ad) s.heap s.heap [] := va_S.rf
  have hz : s.heap.size = s.heap.size := rfl
  have hR : Rng τ := hI
  have hl : lv_has ls 4 [(0, .ref (ad 0)), (1, .int (iI (a))), (2, .int (iI (b))), (3, .int (iI (u)))] := hl
  refine lv_aload_n hx hb dX8_result_0 rfl (lv_at hl 0 rfl) ?_
  refine lv_iload_n hx hb dX8_result_1 rfl (lv_at hl 1 rfl) ?_
  refine lv_iload_n hx hb dX8_result_2 rfl (lv_at hl 2 rfl) ?_
  refine m_call (n := 2) (As := [.int (iI (a)), .int (iI (b))]) (rest := []) hx hb hml hts hown hK hW (c8_isPlace l D cI cZ ad τ hI a (by omega) b (by omega)) gX8_result_X8_isPlace rfl rfl rfl (by decide +kernel) ⟨by decide, by decide⟩ rfl hl.1 rfl (Nat.le_of_ble_eq_true rfl) ⟨Nat.zero_le _, Nat.zero_le _⟩ dX8_result_3 ?_
  have r1 := (show (0 : Int) ≤ τ 18 0 ∧ τ 18 0 ≤ 6 from hI 18 0)
  have r2 := (show (0 : Int) ≤ τ 19 a.toNat ∧ τ 19 a.toNat ≤ 16 from hI 19 a.toNat)
  refine z_if_neB (tgt := 12) hx hb dX8_result_6 (by decide) (fun c3 => ?_) (fun c3 => ?_)
  · refine lv_iload_n hx hb dX8_result_12 rfl (lv_at hl 3 rfl) ?_
    refine z_i2l hx hb (by omega) dX8_result_13 ?_
    refine z_ldc2 (n := (-1000)) hx hb hown (hts (.constantLong RX8 163 (-1000)) (by decide +kernel)) (by decide) dX8_result_14 ?_
    refine z_ldc2 (n := 100000) hx hb hown (hts (.constantLong RX8 116 (100000)) (by decide +kernel)) (by decide) dX8_result_17 ?_
    refine s_call (n := 3) (As := [.long (lL (u)), .long (lL ((-1000))), .long (lL (100000))]) (rest := []) hx hb hml hts hown (c8_in l u (by omega) (-1000) (by omega) 100000 (by omega)) gX8_result_X8_in rfl rfl rfl (by decide +kernel) ⟨by decide, by decide⟩ rfl hl.1 rfl (Nat.le_of_ble_eq_true rfl) ⟨Nat.zero_le _, Nat.zero_le _⟩ dX8_result_20 ?_
    refine z_if_neB (tgt := 29) hx hb dX8_result_23 (by decide) (fun c4 => ?_) (fun c4 => ?_)
    · refine lv_aload_n hx hb dX8_result_29 rfl (lv_at hl 0 rfl) ?_
      refine m_get hx hb hts hin8 hown hK hW 24 (by decide) (hts _ (by decide +kernel)) (v := .ref (ad 24)) rfl dX8_result_30 ?_
      refine z_bipush hx hb dX8_result_33 (by decide) ?_
      refine lv_iload_n hx hb dX8_result_35 rfl (lv_at hl 1 rfl) ?_
      refine z_imul hx hb dX8_result_36 ?_
      refine lv_iload_n hx hb dX8_result_37 rfl (lv_at hl 2 rfl) ?_
      refine z_iadd hx hb dX8_result_38 ?_
      refine lv_iload_n hx hb dX8_result_39 rfl (lv_at hl 3 rfl) ?_
      refine m_ast (d := 24) (j := (16 * a.toNat) + b.toNat) (v := u) hx hb hK hW hS hz rfl (by omega) (show (16 * a.toNat) + b.toNat < 96 from by omega) dX8_result_40 (fun H locs hW hS hz => ?_)
      have hR := Rng.tu (c := 24) (i := (16 * a.toNat) + b.toNat) (v := u) hR (show (-1000 : Int) ≤ u from by omega) (show u ≤ 100000 from by omega)
      refine lv_aload_n hx hb dX8_result_41 rfl (lv_at hl 0 rfl) ?_
      refine m_get hx hb hts hin8 hown hK hW 23 (by decide) (hts _ (by decide +kernel)) (v := .ref (ad 23)) rfl dX8_result_42 ?_
      refine z_bipush hx hb dX8_result_45 (by decide) ?_
      refine lv_iload_n hx hb dX8_result_47 rfl (lv_at hl 1 rfl) ?_
      refine z_imul hx hb dX8_result_48 ?_
      refine lv_iload_n hx hb dX8_result_49 rfl (lv_at hl 2 rfl) ?_
      refine z_iadd hx hb dX8_result_50 ?_
      refine z_iconst hx hb dX8_result_51 ?_
      refine m_zst (d := 23) (j := (16 * a.toNat) + b.toNat) (v := 1) hx hb hK hW hS hz rfl (by omega) (show (16 * a.toNat) + b.toNat < 96 from by omega) (by omega) dX8_result_52 (fun H locs hW hS hz => ?_)
      have hR := Rng.tu (c := 23) (i := (16 * a.toNat) + b.toNat) (v := 1) hR (show (0 : Int) ≤ 1 from by omega) (show 1 ≤ 1 from by omega)
      refine z_iconst hx hb dX8_result_53 ?_
      exact m_iret hx hb hr hlocks (by unfold stRes; rw [if_pos (by refine ⟨?_, ?_⟩ <;> first | omega | assumption)]; exact hW) hS hz (by unfold spRes; repeat (first | rw [if_pos (by first | assumption | omega)] | rw [if_neg (by first | assumption | omega | (intro hk; exact hk (by assumption)))])) dX8_result_54
    · refine z_bipush hx hb dX8_result_26 (by decide) ?_
      exact m_iret hx hb hr hlocks (by unfold stRes; rw [if_neg (fun hk => by first | omega | exact hk.1 (by assumption) | exact hk.2.1 (by assumption) | exact hk.2.2.1 (by assumption) | exact hk.2.2.2.1 (by assumption) | exact hk.2.2.2 (by assumption) | exact hk.2.2.2.2 (by assumption))]; exact hW) hS hz (by unfold spRes; repeat (first | rw [if_pos (by first | assumption | omega)] | rw [if_neg (by first | assumption | omega | (intro hk; exact hk (by assumption)))])) dX8_result_28
  · refine z_bipush hx hb dX8_result_9 (by decide) ?_
    exact m_iret hx hb hr hlocks (by unfold stRes; rw [if_neg (fun hk => by first | omega | exact hk.1 (by assumption) | exact hk.2.1 (by assumption) | exact hk.2.2.1 (by assumption) | exact hk.2.2.2.1 (by assumption) | exact hk.2.2.2 (by assumption) | exact hk.2.2.2.2 (by assumption))]; exact hW) hS hz (by unfold spRes; repeat (first | rw [if_pos (by first | assumption | omega)] | rw [if_neg (by first | assumption | omega | (intro hk; exact hk (by assumption)))])) dX8_result_11
set_option maxHeartbeats 4000000 in
set_option maxRecDepth 100000 in
theorem c8_lower (l : Launch) (D : va_G) (cI cZ : ClassId) (ad : Nat → Nat) (τ : Tau) (hI : Rng τ) (q : Nat) (zq : Int) (hzq : zq = (q : Int)) (h0 : q < 96) : Met l yX8_lower wsX8_lower { frames := 0, cells := 0, slots := 0, locals := 0 } (mPc D cI cZ ad τ [.ref (ad 0), .int (iI zq)]) (rS (loO τ q)) 0 0 NoA := by
  subst hzq
  refine m_start (by decide) rfl (Nat.le_of_ble_eq_true rfl) ?_
  intro p e s m below meth c hx hb hr hlocks hml hts hown hW hK ls hl
  have hin8 : ∀ w ∈ wsX80, w ∈ wsX8_lower := by decide +kernel
  have hl : lv_has ls 2 [(0, .ref (ad 0)), (1, .int (iI ((q : Int))))] := hl
  refine lv_aload_n hx hb dX8_lower_0 rfl (lv_at hl 0 rfl) ?_
  refine m_get hx hb hts hin8 hown hK hW 24 (by decide) (hts _ (by decide +kernel)) (v := .ref (ad 24)) rfl dX8_lower_1 ?_
  refine lv_iload_n hx hb dX8_lower_4 rfl (lv_at hl 1 rfl) ?_
  refine m_ald (d := 24) (j := q) hx hb hK hW rfl (by omega) (show q < 96 from by omega) dX8_lower_5 ?_
  have r1 : (-1000 : Int) ≤ τ 24 q ∧ τ 24 q ≤ 100000 := hI 24 q
  refine z_if_ge (tgt := 13) hx hb (by omega) dX8_lower_6 (by decide) (fun c2 => ?_) (fun c2 => ?_)
  · refine lv_aload_n hx hb dX8_lower_13 rfl (lv_at hl 0 rfl) ?_
    refine m_get hx hb hts hin8 hown hK hW 24 (by decide) (hts _ (by decide +kernel)) (v := .ref (ad 24)) rfl dX8_lower_14 ?_
    refine lv_iload_n hx hb dX8_lower_17 rfl (lv_at hl 1 rfl) ?_
    refine m_ald (d := 24) (j := q) hx hb hK hW rfl (by omega) (show q < 96 from by omega) dX8_lower_18 ?_
    exact s_iret hx hb hr hlocks (by unfold loO; repeat (first | rw [if_pos (by first | assumption | omega)] | rw [if_neg (by first | assumption | omega | (intro hk; exact hk (by assumption)))])) dX8_lower_19
  · refine z_iconst hx hb dX8_lower_9 ?_
    refine lv_goto (tgt := 19) hx hb dX8_lower_10 (by decide) ?_
    exact s_iret hx hb hr hlocks (by unfold loO; repeat (first | rw [if_pos (by first | assumption | omega)] | rw [if_neg (by first | assumption | omega | (intro hk; exact hk (by assumption)))])) dX8_lower_19
set_option maxHeartbeats 4000000 in
set_option maxRecDepth 100000 in
theorem c8_upper (l : Launch) (D : va_G) (cI cZ : ClassId) (ad : Nat → Nat) (τ : Tau) (hI : Rng τ) (q : Nat) (zq : Int) (hzq : zq = (q : Int)) (h0 : q < 96) : Met l yX8_upper wsX8_upper { frames := 0, cells := 0, slots := 0, locals := 0 } (mPc D cI cZ ad τ [.ref (ad 0), .int (iI zq)]) (rS (upO τ q)) 0 0 NoA := by
  subst hzq
  refine m_start (by decide) rfl (Nat.le_of_ble_eq_true rfl) ?_
  intro p e s m below meth c hx hb hr hlocks hml hts hown hW hK ls hl
  have hin8 : ∀ w ∈ wsX80, w ∈ wsX8_upper := by decide +kernel
  have hl : lv_has ls 2 [(0, .ref (ad 0)), (1, .int (iI ((q : Int))))] := hl
  refine lv_aload_n hx hb dX8_upper_0 rfl (lv_at hl 0 rfl) ?_
  refine m_get hx hb hts hin8 hown hK hW 24 (by decide) (hts _ (by decide +kernel)) (v := .ref (ad 24)) rfl dX8_upper_1 ?_
  refine lv_iload_n hx hb dX8_upper_4 rfl (lv_at hl 1 rfl) ?_
  refine m_ald (d := 24) (j := q) hx hb hK hW rfl (by omega) (show q < 96 from by omega) dX8_upper_5 ?_
  have r1 : (-1000 : Int) ≤ τ 24 q ∧ τ 24 q ≤ 100000 := hI 24 q
  refine z_if_ge (tgt := 21) hx hb (by omega) dX8_upper_6 (by decide) (fun c2 => ?_) (fun c2 => ?_)
  · refine lv_aload_n hx hb dX8_upper_21 rfl (lv_at hl 0 rfl) ?_
    refine m_get hx hb hts hin8 hown hK hW 24 (by decide) (hts _ (by decide +kernel)) (v := .ref (ad 24)) rfl dX8_upper_22 ?_
    refine lv_iload_n hx hb dX8_upper_25 rfl (lv_at hl 1 rfl) ?_
    refine m_ald (d := 24) (j := q) hx hb hK hW rfl (by omega) (show q < 96 from by omega) dX8_upper_26 ?_
    exact s_iret hx hb hr hlocks (by unfold upO; repeat (first | rw [if_pos (by first | assumption | omega)] | rw [if_neg (by first | assumption | omega | (intro hk; exact hk (by assumption)))])) dX8_upper_27
  · refine lv_aload_n hx hb dX8_upper_9 rfl (lv_at hl 0 rfl) ?_
    refine m_get hx hb hts hin8 hown hK hW 24 (by decide) (hts _ (by decide +kernel)) (v := .ref (ad 24)) rfl dX8_upper_10 ?_
    refine lv_iload_n hx hb dX8_upper_13 rfl (lv_at hl 1 rfl) ?_
    refine m_ald (d := 24) (j := q) hx hb hK hW rfl (by omega) (show q < 96 from by omega) dX8_upper_14 ?_
    refine z_ineg hx hb dX8_upper_15 ?_
    refine z_iconst hx hb dX8_upper_16 ?_
    refine z_isub hx hb dX8_upper_17 ?_
    refine lv_goto (tgt := 27) hx hb dX8_upper_18 (by decide) ?_
    exact s_iret hx hb hr hlocks (by unfold upO; repeat (first | rw [if_pos (by first | assumption | omega)] | rw [if_neg (by first | assumption | omega | (intro hk; exact hk (by assumption)))])) dX8_upper_27
set_option maxHeartbeats 4000000 in
set_option maxRecDepth 100000 in
theorem c8_far (l : Launch) (a : Int) (h_a : I32 a) (b : Int) (h_b : I32 b) (hc : -1000000 ≤ a - b ∧ a - b ≤ 1000000) : Met l yX8_far wsX8_far { frames := 0, cells := 0, slots := 0, locals := 0 } (sPc [.int (iI (a)), .int (iI (b))]) (rS (farI a b)) 0 0 NoA := by
  refine s_start (by decide) rfl (Nat.le_of_ble_eq_true rfl) ?_
  intro p e s m below meth c hx hb hr hlocks hml hts hown ls hl
  have hl : lv_has ls 2 [(0, .int (iI (a))), (1, .int (iI (b)))] := hl
  refine lv_iload_n hx hb dX8_far_0 rfl (lv_at hl 0 rfl) ?_
  refine lv_iload_n hx hb dX8_far_1 rfl (lv_at hl 1 rfl) ?_
  refine z_icmp_ge (tgt := 11) hx hb (by omega) (by omega) dX8_far_2 (by decide) (fun c1 => ?_) (fun c1 => ?_)
  · refine lv_iload_n hx hb dX8_far_11 rfl (lv_at hl 0 rfl) ?_
    refine lv_iload_n hx hb dX8_far_12 rfl (lv_at hl 1 rfl) ?_
    refine z_isub hx hb dX8_far_13 ?_
    exact s_iret hx hb hr hlocks (by unfold farI; repeat (first | rw [if_pos (by first | assumption | omega)] | rw [if_neg (by first | assumption | omega | (intro hk; exact hk (by assumption)))])) dX8_far_14
  · refine lv_iload_n hx hb dX8_far_5 rfl (lv_at hl 1 rfl) ?_
    refine lv_iload_n hx hb dX8_far_6 rfl (lv_at hl 0 rfl) ?_
    refine z_isub hx hb dX8_far_7 ?_
    refine lv_goto (tgt := 14) hx hb dX8_far_8 (by decide) ?_
    exact s_iret hx hb hr hlocks (by unfold farI; repeat (first | rw [if_pos (by first | assumption | omega)] | rw [if_neg (by first | assumption | omega | (intro hk; exact hk (by assumption)))])) dX8_far_14
set_option maxHeartbeats 4000000 in
set_option maxRecDepth 100000 in
theorem c8_isGood (l : Launch) (D : va_G) (cI cZ : ClassId) (ad : Nat → Nat) (τ : Tau) (hI : Rng τ) (b : Nat) (zb : Int) (hzb : zb = (b : Int)) (q : Nat) (zq : Int) (hzq : zq = (q : Int)) (h0 : b < 6) (h1 : q < 16) (hw : τ 20 (16 * b + q) = 3 → τ 21 (16 * b + q) < 16) : Met l yX8_isGood wsX8_isGood { frames := 1, cells := 0, slots := 0, locals := 21 } (mPc D cI cZ ad τ [.ref (ad 0), .int (iI zb), .int (iI zq)]) (rS (bI (gdP τ b q))) 0 0 NoA := by
  subst hzb
  subst hzq
  refine m_start (by decide) rfl (Nat.le_of_ble_eq_true rfl) ?_
  intro p e s m below meth c hx hb hr hlocks hml hts hown hW hK ls hl
  have hin8 : ∀ w ∈ wsX80, w ∈ wsX8_isGood := by decide +kernel
  have hl : lv_has ls 6 [(0, .ref (ad 0)), (1, .int (iI ((b : Int)))), (2, .int (iI ((q : Int))))] := hl
  refine z_bipush hx hb dX8_isGood_0 (by decide) ?_
  refine lv_iload_n hx hb dX8_isGood_2 rfl (lv_at hl 1 rfl) ?_
  refine z_imul hx hb dX8_isGood_3 ?_
  refine lv_iload_n hx hb dX8_isGood_4 rfl (lv_at hl 2 rfl) ?_
  refine z_iadd hx hb dX8_isGood_5 ?_
  refine lv_istore_n (lv' := [(3, .int (iI ((16 * (b : Int)) + (q : Int)))), (0, .ref (ad 0)), (1, .int (iI ((b : Int)))), (2, .int (iI ((q : Int))))]) hx hb dX8_isGood_6 rfl hl (by decide) rfl (fun ls hl => ?_)
  refine lv_aload_n hx hb dX8_isGood_7 rfl (lv_at hl 1 rfl) ?_
  refine m_get hx hb hts hin8 hown hK hW 20 (by decide) (hts _ (by decide +kernel)) (v := .ref (ad 20)) rfl dX8_isGood_8 ?_
  refine lv_iload_n hx hb dX8_isGood_11 rfl (lv_at hl 0 rfl) ?_
  refine m_ald (d := 20) (j := (16 * b) + q) hx hb hK hW rfl (by omega) (show (16 * b) + q < 96 from by omega) dX8_isGood_12 ?_
  have r1 : (0 : Int) ≤ τ 20 ((16 * b) + q) ∧ τ 20 ((16 * b) + q) ≤ 3 := hI 20 ((16 * b) + q)
  refine z_iconst hx hb dX8_isGood_13 ?_
  refine z_icmp_ne (tgt := 69) hx hb (by omega) (by omega) dX8_isGood_14 (by decide) (fun c2 => ?_) (fun c2 => ?_)
  · refine lv_aload_n hx hb dX8_isGood_69 rfl (lv_at hl 1 rfl) ?_
    refine m_get hx hb hts hin8 hown hK hW 20 (by decide) (hts _ (by decide +kernel)) (v := .ref (ad 20)) rfl dX8_isGood_70 ?_
    refine lv_iload_n hx hb dX8_isGood_73 rfl (lv_at hl 0 rfl) ?_
    refine m_ald (d := 20) (j := (16 * b) + q) hx hb hK hW rfl (by omega) (show (16 * b) + q < 96 from by omega) dX8_isGood_74 ?_
    refine z_iconst hx hb dX8_isGood_75 ?_
    refine z_icmp_ne (tgt := 99) hx hb (by omega) (by omega) dX8_isGood_76 (by decide) (fun c3 => ?_) (fun c3 => ?_)
    · refine lv_aload_n hx hb dX8_isGood_99 rfl (lv_at hl 1 rfl) ?_
      refine m_get hx hb hts hin8 hown hK hW 20 (by decide) (hts _ (by decide +kernel)) (v := .ref (ad 20)) rfl dX8_isGood_100 ?_
      refine lv_iload_n hx hb dX8_isGood_103 rfl (lv_at hl 0 rfl) ?_
      refine m_ald (d := 20) (j := (16 * b) + q) hx hb hK hW rfl (by omega) (show (16 * b) + q < 96 from by omega) dX8_isGood_104 ?_
      refine z_iconst hx hb dX8_isGood_105 ?_
      refine z_icmp_ne (tgt := 178) hx hb (by omega) (by omega) dX8_isGood_106 (by decide) (fun c4 => ?_) (fun c4 => ?_)
      · refine z_iconst hx hb dX8_isGood_178 ?_
        exact s_zret hx hb hr hlocks ((bI_t (by refine ⟨fun _ => ?_, fun _ => ?_, fun _ => ?_⟩ <;> omega)).symm) dX8_isGood_179
      · have hw2 := hw (by omega)
        have hl2 := up_r hI (16 * b + q)
        have hl3 := up_r hI (16 * b + (τ 21 (16 * b + q)).toNat)
        have hl4 := far_r hl2 hl3
        have hl5 := mx_r hl2 hl3
        have hl6 : (0 : Int) ≤ τ 25 1 ∧ τ 25 1 ≤ 1000 := hI 25 1
        have hl7 := mul_r hl6 hl5
        refine lv_aload_n hx hb dX8_isGood_109 rfl (lv_at hl 1 rfl) ?_
        refine lv_iload_n hx hb dX8_isGood_110 rfl (lv_at hl 0 rfl) ?_
        refine m_call (n := 1) (As := [.int (iI ((16 * (b : Int)) + (q : Int)))]) (rest := []) hx hb hml hts hown hK hW (c8_upper l D cI cZ ad τ hI ((16 * b) + q) ((16 * (b : Int)) + (q : Int)) (by omega) (by omega)) gX8_isGood_X8_upper rfl rfl rfl (by decide +kernel) ⟨by decide, by decide⟩ rfl hl.1 rfl (Nat.le_of_ble_eq_true rfl) ⟨Nat.zero_le _, Nat.zero_le _⟩ dX8_isGood_111 ?_
        have r5 := up_r hI ((16 * b) + q)
        refine lv_istore (lv' := [(4, .int (iI (upO τ ((16 * b) + q)))), (3, .int (iI ((16 * (b : Int)) + (q : Int)))), (0, .ref (ad 0)), (1, .int (iI ((b : Int)))), (2, .int (iI ((q : Int))))]) hx hb dX8_isGood_114 hl (by decide) rfl (fun ls hl => ?_)
        refine lv_aload_n hx hb dX8_isGood_116 rfl (lv_at hl 2 rfl) ?_
        refine z_bipush hx hb dX8_isGood_117 (by decide) ?_
        refine lv_iload_n hx hb dX8_isGood_119 rfl (lv_at hl 3 rfl) ?_
        refine z_imul hx hb dX8_isGood_120 ?_
        refine lv_aload_n hx hb dX8_isGood_121 rfl (lv_at hl 2 rfl) ?_
        refine m_get hx hb hts hin8 hown hK hW 21 (by decide) (hts _ (by decide +kernel)) (v := .ref (ad 21)) rfl dX8_isGood_122 ?_
        refine lv_iload_n hx hb dX8_isGood_125 rfl (lv_at hl 1 rfl) ?_
        refine m_ald (d := 21) (j := (16 * b) + q) hx hb hK hW rfl (by omega) (show (16 * b) + q < 96 from by omega) dX8_isGood_126 ?_
        have r6 : (0 : Int) ≤ τ 21 ((16 * b) + q) ∧ τ 21 ((16 * b) + q) ≤ 100000 := hI 21 ((16 * b) + q)
        refine z_iadd hx hb dX8_isGood_127 ?_
        refine m_call (n := 1) (As := [.int (iI ((16 * (b : Int)) + (τ 21 ((16 * b) + q))))]) (rest := []) hx hb hml hts hown hK hW (c8_upper l D cI cZ ad τ hI ((16 * b) + ((τ 21 ((16 * b) + q)).toNat)) ((16 * (b : Int)) + (τ 21 ((16 * b) + q))) (by omega) (by omega)) gX8_isGood_X8_upper rfl rfl rfl (by decide +kernel) ⟨by decide, by decide⟩ rfl hl.1 rfl (Nat.le_of_ble_eq_true rfl) ⟨Nat.zero_le _, Nat.zero_le _⟩ dX8_isGood_128 ?_
        have r7 := up_r hI ((16 * b) + ((τ 21 ((16 * b) + q)).toNat))
        refine lv_istore (lv' := [(5, .int (iI (upO τ ((16 * b) + ((τ 21 ((16 * b) + q)).toNat))))), (4, .int (iI (upO τ ((16 * b) + q)))), (3, .int (iI ((16 * (b : Int)) + (q : Int)))), (0, .ref (ad 0)), (1, .int (iI ((b : Int)))), (2, .int (iI ((q : Int))))]) hx hb dX8_isGood_131 hl (by decide) rfl (fun ls hl => ?_)
        refine z_ldc2 (n := 1000) hx hb hown (hts (.constantLong RX8 95 (1000)) (by decide +kernel)) (by decide) dX8_isGood_133 ?_
        refine lv_iload hx hb dX8_isGood_136 (lv_at hl 1 rfl) ?_
        refine lv_iload hx hb dX8_isGood_138 (lv_at hl 0 rfl) ?_
        refine s_call (n := 2) (As := [.int (iI (upO τ ((16 * b) + q))), .int (iI (upO τ ((16 * b) + ((τ 21 ((16 * b) + q)).toNat))))]) (rest := [.long (lL (1000))]) hx hb hml hts hown (c8_far l (upO τ ((16 * b) + q)) (by omega) (upO τ ((16 * b) + ((τ 21 ((16 * b) + q)).toNat))) (by omega) (by omega)) gX8_isGood_X8_far rfl rfl rfl (by decide +kernel) ⟨by decide, by decide⟩ rfl hl.1 rfl (Nat.le_of_ble_eq_true rfl) ⟨Nat.zero_le _, Nat.zero_le _⟩ dX8_isGood_140 ?_
        refine z_i2l hx hb (by omega) dX8_isGood_143 ?_
        refine z_lmul hx hb dX8_isGood_144 ?_
        refine lv_aload_n hx hb dX8_isGood_145 rfl (lv_at hl 3 rfl) ?_
        refine m_get hx hb hts hin8 hown hK hW 25 (by decide) (hts _ (by decide +kernel)) (v := .ref (ad 25)) rfl dX8_isGood_146 ?_
        refine z_iconst hx hb dX8_isGood_149 ?_
        refine m_ald (d := 25) (j := 1) hx hb hK hW rfl (by omega) (show 1 < 2 from by omega) dX8_isGood_150 ?_
        have r8 : (0 : Int) ≤ τ 25 1 ∧ τ 25 1 ≤ 1000 := hI 25 1
        refine z_i2l hx hb (by omega) dX8_isGood_151 ?_
        have jn166 : ∀ xj : Int, xj = mxI (upO τ (16 * b + q)) (upO τ (16 * b + (τ 21 (16 * b + q)).toNat)) → ∀ ls : Array Slot, lv_has ls 6 [(5, .int (iI (upO τ ((16 * b) + ((τ 21 ((16 * b) + q)).toNat))))), (4, .int (iI (upO τ ((16 * b) + q)))), (3, .int (iI ((16 * (b : Int)) + (q : Int)))), (0, .ref (ad 0)), (1, .int (iI ((b : Int)))), (2, .int (iI ((q : Int))))] → W p l e { frames := 1, cells := 0, slots := 0, locals := 21 } s m [.ref (ad 0), .int (iI ((b : Int))), .int (iI ((q : Int)))].toArray below meth c s.heap [] 0 0 (MQ below (rS (bI (gdP τ b q))) [.ref (ad 0), .int (iI ((b : Int))), .int (iI ((q : Int)))].toArray s 0 0 (NoA)) (F0 m 166 ls (.int (iI xj) :: .long (lL (τ 25 1)) :: .long (lL (1000 * (farI (upO τ ((16 * b) + q)) (upO τ ((16 * b) + ((τ 21 ((16 * b) + q)).toNat)))))) :: [])) := by
          intro xj ej ls hl
          subst ej
          refine z_i2l hx hb (by omega) dX8_isGood_166 ?_
          refine z_lmul hx hb dX8_isGood_167 ?_
          refine z_lcmp hx hb (by omega) (by omega) dX8_isGood_168 ?_
          refine z_if_gt (tgt := 176) hx hb (by have := cmpI_r (1000 * (farI (upO τ ((16 * b) + q)) (upO τ ((16 * b) + ((τ 21 ((16 * b) + q)).toNat))))) ((τ 25 1) * (mxI (upO τ (16 * b + q)) (upO τ (16 * b + (τ 21 (16 * b + q)).toNat)))); omega) dX8_isGood_169 (by decide) (fun c9 => ?_) (fun c9 => ?_)
          · rw [cmpI_gt] at c9
            refine z_iconst hx hb dX8_isGood_176 ?_
            exact s_zret hx hb hr hlocks ((bI_f (fun hk => by have k1 := hk.1; have k2 := hk.2.1; have k3 := hk.2.2; omega)).symm) dX8_isGood_177
          · rw [cmpI_gt] at c9
            refine z_iconst hx hb dX8_isGood_172 ?_
            refine lv_goto (tgt := 177) hx hb dX8_isGood_173 (by decide) ?_
            exact s_zret hx hb hr hlocks ((bI_t (by refine ⟨fun _ => ?_, fun _ => ?_, fun _ => ?_⟩ <;> omega)).symm) dX8_isGood_177
        refine lv_iload hx hb dX8_isGood_152 (lv_at hl 1 rfl) ?_
        refine lv_iload hx hb dX8_isGood_154 (lv_at hl 0 rfl) ?_
        refine z_icmp_le (tgt := 164) hx hb (by omega) (by omega) dX8_isGood_156 (by decide) (fun c10 => ?_) (fun c10 => ?_)
        · refine lv_iload hx hb dX8_isGood_164 (lv_at hl 0 rfl) ?_
          exact jn166 (upO τ ((16 * b) + ((τ 21 ((16 * b) + q)).toNat))) (by unfold mxI; repeat (first | rw [if_pos (by first | assumption | omega)] | rw [if_neg (by first | assumption | omega | (intro hk; exact hk (by assumption)))])) ls (lv_sub hl [0, 1, 2, 3, 4, 5] rfl)
        · refine lv_iload hx hb dX8_isGood_159 (lv_at hl 1 rfl) ?_
          refine lv_goto (tgt := 166) hx hb dX8_isGood_161 (by decide) ?_
          exact jn166 (upO τ ((16 * b) + q)) (by unfold mxI; repeat (first | rw [if_pos (by first | assumption | omega)] | rw [if_neg (by first | assumption | omega | (intro hk; exact hk (by assumption)))])) ls (lv_sub hl [0, 1, 2, 3, 4, 5] rfl)
    · refine lv_aload_n hx hb dX8_isGood_79 rfl (lv_at hl 1 rfl) ?_
      refine lv_iload_n hx hb dX8_isGood_80 rfl (lv_at hl 0 rfl) ?_
      refine m_call (n := 1) (As := [.int (iI ((16 * (b : Int)) + (q : Int)))]) (rest := []) hx hb hml hts hown hK hW (c8_upper l D cI cZ ad τ hI ((16 * b) + q) ((16 * (b : Int)) + (q : Int)) (by omega) (by omega)) gX8_isGood_X8_upper rfl rfl rfl (by decide +kernel) ⟨by decide, by decide⟩ rfl hl.1 rfl (Nat.le_of_ble_eq_true rfl) ⟨Nat.zero_le _, Nat.zero_le _⟩ dX8_isGood_81 ?_
      have r11 := up_r hI ((16 * b) + q)
      refine lv_aload_n hx hb dX8_isGood_84 rfl (lv_at hl 1 rfl) ?_
      refine m_get hx hb hts hin8 hown hK hW 25 (by decide) (hts _ (by decide +kernel)) (v := .ref (ad 25)) rfl dX8_isGood_85 ?_
      refine z_iconst hx hb dX8_isGood_88 ?_
      refine m_ald (d := 25) (j := 0) hx hb hK hW rfl (by omega) (show 0 < 2 from by omega) dX8_isGood_89 ?_
      have r12 : (0 : Int) ≤ τ 25 0 ∧ τ 25 0 ≤ 1000 := hI 25 0
      refine z_icmp_gt (tgt := 97) hx hb (by omega) (by omega) dX8_isGood_90 (by decide) (fun c13 => ?_) (fun c13 => ?_)
      · refine z_iconst hx hb dX8_isGood_97 ?_
        exact s_zret hx hb hr hlocks ((bI_f (fun hk => by have k1 := hk.1; have k2 := hk.2.1; have k3 := hk.2.2; omega)).symm) dX8_isGood_98
      · refine z_iconst hx hb dX8_isGood_93 ?_
        refine lv_goto (tgt := 98) hx hb dX8_isGood_94 (by decide) ?_
        exact s_zret hx hb hr hlocks ((bI_t (by refine ⟨fun _ => ?_, fun _ => ?_, fun _ => ?_⟩ <;> omega)).symm) dX8_isGood_98
  · have hl1 := lo_r hI (16 * b + q)
    have hl2 := up_r hI (16 * b + q)
    have hl3 : (0 : Int) ≤ τ 21 (16 * b + q) ∧ τ 21 (16 * b + q) ≤ 100000 := hI 21 (16 * b + q)
    have hl4 := far_r hl1 hl3
    have hl5 := far_r hl2 hl3
    refine lv_aload_n hx hb dX8_isGood_17 rfl (lv_at hl 1 rfl) ?_
    refine lv_iload_n hx hb dX8_isGood_18 rfl (lv_at hl 0 rfl) ?_
    refine m_call (n := 1) (As := [.int (iI ((16 * (b : Int)) + (q : Int)))]) (rest := []) hx hb hml hts hown hK hW (c8_lower l D cI cZ ad τ hI ((16 * b) + q) ((16 * (b : Int)) + (q : Int)) (by omega) (by omega)) gX8_isGood_X8_lower rfl rfl rfl (by decide +kernel) ⟨by decide, by decide⟩ rfl hl.1 rfl (Nat.le_of_ble_eq_true rfl) ⟨Nat.zero_le _, Nat.zero_le _⟩ dX8_isGood_19 ?_
    have r14 := lo_r hI ((16 * b) + q)
    refine lv_aload_n hx hb dX8_isGood_22 rfl (lv_at hl 1 rfl) ?_
    refine m_get hx hb hts hin8 hown hK hW 21 (by decide) (hts _ (by decide +kernel)) (v := .ref (ad 21)) rfl dX8_isGood_23 ?_
    refine lv_iload_n hx hb dX8_isGood_26 rfl (lv_at hl 0 rfl) ?_
    refine m_ald (d := 21) (j := (16 * b) + q) hx hb hK hW rfl (by omega) (show (16 * b) + q < 96 from by omega) dX8_isGood_27 ?_
    have r15 : (0 : Int) ≤ τ 21 ((16 * b) + q) ∧ τ 21 ((16 * b) + q) ≤ 100000 := hI 21 ((16 * b) + q)
    refine s_call (n := 2) (As := [.int (iI (loO τ ((16 * b) + q))), .int (iI (τ 21 ((16 * b) + q)))]) (rest := []) hx hb hml hts hown (c8_far l (loO τ ((16 * b) + q)) (by omega) (τ 21 ((16 * b) + q)) (by omega) (by omega)) gX8_isGood_X8_far rfl rfl rfl (by decide +kernel) ⟨by decide, by decide⟩ rfl hl.1 rfl (Nat.le_of_ble_eq_true rfl) ⟨Nat.zero_le _, Nat.zero_le _⟩ dX8_isGood_28 ?_
    refine lv_aload_n hx hb dX8_isGood_31 rfl (lv_at hl 1 rfl) ?_
    refine m_get hx hb hts hin8 hown hK hW 22 (by decide) (hts _ (by decide +kernel)) (v := .ref (ad 22)) rfl dX8_isGood_32 ?_
    refine lv_iload_n hx hb dX8_isGood_35 rfl (lv_at hl 0 rfl) ?_
    refine m_ald (d := 22) (j := (16 * b) + q) hx hb hK hW rfl (by omega) (show (16 * b) + q < 96 from by omega) dX8_isGood_36 ?_
    have r16 : (0 : Int) ≤ τ 22 ((16 * b) + q) ∧ τ 22 ((16 * b) + q) ≤ 10000 := hI 22 ((16 * b) + q)
    refine z_icmp_gt (tgt := 67) hx hb (by omega) (by omega) dX8_isGood_37 (by decide) (fun c17 => ?_) (fun c17 => ?_)
    · refine z_iconst hx hb dX8_isGood_67 ?_
      exact s_zret hx hb hr hlocks ((bI_f (fun hk => by have k1 := hk.1; have k2 := hk.2.1; have k3 := hk.2.2; omega)).symm) dX8_isGood_68
    · refine lv_aload_n hx hb dX8_isGood_40 rfl (lv_at hl 1 rfl) ?_
      refine lv_iload_n hx hb dX8_isGood_41 rfl (lv_at hl 0 rfl) ?_
      refine m_call (n := 1) (As := [.int (iI ((16 * (b : Int)) + (q : Int)))]) (rest := []) hx hb hml hts hown hK hW (c8_upper l D cI cZ ad τ hI ((16 * b) + q) ((16 * (b : Int)) + (q : Int)) (by omega) (by omega)) gX8_isGood_X8_upper rfl rfl rfl (by decide +kernel) ⟨by decide, by decide⟩ rfl hl.1 rfl (Nat.le_of_ble_eq_true rfl) ⟨Nat.zero_le _, Nat.zero_le _⟩ dX8_isGood_42 ?_
      have r18 := up_r hI ((16 * b) + q)
      refine lv_aload_n hx hb dX8_isGood_45 rfl (lv_at hl 1 rfl) ?_
      refine m_get hx hb hts hin8 hown hK hW 21 (by decide) (hts _ (by decide +kernel)) (v := .ref (ad 21)) rfl dX8_isGood_46 ?_
      refine lv_iload_n hx hb dX8_isGood_49 rfl (lv_at hl 0 rfl) ?_
      refine m_ald (d := 21) (j := (16 * b) + q) hx hb hK hW rfl (by omega) (show (16 * b) + q < 96 from by omega) dX8_isGood_50 ?_
      refine s_call (n := 2) (As := [.int (iI (upO τ ((16 * b) + q))), .int (iI (τ 21 ((16 * b) + q)))]) (rest := []) hx hb hml hts hown (c8_far l (upO τ ((16 * b) + q)) (by omega) (τ 21 ((16 * b) + q)) (by omega) (by omega)) gX8_isGood_X8_far rfl rfl rfl (by decide +kernel) ⟨by decide, by decide⟩ rfl hl.1 rfl (Nat.le_of_ble_eq_true rfl) ⟨Nat.zero_le _, Nat.zero_le _⟩ dX8_isGood_51 ?_
      refine lv_aload_n hx hb dX8_isGood_54 rfl (lv_at hl 1 rfl) ?_
      refine m_get hx hb hts hin8 hown hK hW 22 (by decide) (hts _ (by decide +kernel)) (v := .ref (ad 22)) rfl dX8_isGood_55 ?_
      refine lv_iload_n hx hb dX8_isGood_58 rfl (lv_at hl 0 rfl) ?_
      refine m_ald (d := 22) (j := (16 * b) + q) hx hb hK hW rfl (by omega) (show (16 * b) + q < 96 from by omega) dX8_isGood_59 ?_
      refine z_icmp_gt (tgt := 67) hx hb (by omega) (by omega) dX8_isGood_60 (by decide) (fun c19 => ?_) (fun c19 => ?_)
      · refine z_iconst hx hb dX8_isGood_67 ?_
        exact s_zret hx hb hr hlocks ((bI_f (fun hk => by have k1 := hk.1; have k2 := hk.2.1; have k3 := hk.2.2; omega)).symm) dX8_isGood_68
      · refine z_iconst hx hb dX8_isGood_63 ?_
        refine lv_goto (tgt := 68) hx hb dX8_isGood_64 (by decide) ?_
        exact s_zret hx hb hr hlocks ((bI_t (by refine ⟨fun _ => ?_, fun _ => ?_, fun _ => ?_⟩ <;> omega)).symm) dX8_isGood_68
set_option maxHeartbeats 4000000 in
set_option maxRecDepth 100000 in
theorem c8_isTold (l : Launch) (D : va_G) (cI cZ : ClassId) (ad : Nat → Nat) (τ : Tau) (hI : Rng τ) (b : Nat) (zb : Int) (hzb : zb = (b : Int)) (h0 : b < 6) : Met l yX8_isTold wsX8_isTold { frames := 0, cells := 0, slots := 0, locals := 0 } (mPc D cI cZ ad τ [.ref (ad 0), .int (iI zb)]) (rS (bI (tdO τ b = true))) 0 0 NoA := by
  subst hzb
  refine m_start (by decide) rfl (Nat.le_of_ble_eq_true rfl) ?_
  intro p e s m below meth c hx hb hr hlocks hml hts hown hW hK ls hl
  have hin8 : ∀ w ∈ wsX80, w ∈ wsX8_isTold := by decide +kernel
  have hl : lv_has ls 4 [(0, .ref (ad 0)), (1, .int (iI ((b : Int))))] := hl
  obtain ⟨N, hN⟩ : ∃ N : Nat, τ 19 b = N := ⟨(τ 19 b).toNat, by have : (0 : Int) ≤ τ 19 b ∧ τ 19 b ≤ 16 := hI 19 b; omega⟩
  have hN2 : (τ 19 b).toNat = N := by omega
  have hN3 : N ≤ 16 := by have : (0 : Int) ≤ τ 19 b ∧ τ 19 b ≤ 16 := hI 19 b; omega
  have jn14 : ∀ xj : Int, xj = bI (tdK τ b 0 = true) → ∀ ls : Array Slot, lv_has ls 4 [(0, .ref (ad 0)), (1, .int (iI ((b : Int))))] → W p l e { frames := 0, cells := 0, slots := 0, locals := 0 } s m [.ref (ad 0), .int (iI ((b : Int)))].toArray below meth c s.heap [] 0 0 (MQ below (rS (bI (tdO τ b = true))) [.ref (ad 0), .int (iI ((b : Int)))].toArray s 0 0 (NoA)) (F0 m 14 ls (.int (iI xj) :: [])) := by
    intro xj ej ls hl
    subst ej
    refine lv_istore_n (lv' := [(2, .int (iI (bI (tdK τ b 0 = true)))), (0, .ref (ad 0)), (1, .int (iI ((b : Int))))]) hx hb dX8_isTold_14 rfl hl (by decide) rfl (fun ls hl => ?_)
    refine z_iconst hx hb dX8_isTold_15 ?_
    refine lv_istore_n (lv' := [(3, .int (iI (0))), (2, .int (iI (bI (tdK τ b 0 = true)))), (0, .ref (ad 0)), (1, .int (iI ((b : Int))))]) hx hb dX8_isTold_16 rfl hl (by decide) rfl (fun ls hl => ?_)
    have lp17 : ∀ (n17 k : Nat) (x2 x3 : Int), x2 = bI (tdK τ b k = true) → x3 = (k : Int) → k ≤ N → N + 1 ≤ k + n17 → ∀ ls : Array Slot, lv_has ls 4 [(2, .int (iI (x2))), (3, .int (iI (x3))), (0, .ref (ad 0)), (1, .int (iI ((b : Int))))] → W p l e { frames := 0, cells := 0, slots := 0, locals := 0 } s m [.ref (ad 0), .int (iI ((b : Int)))].toArray below meth c s.heap [] 0 0 (MQ below (rS (bI (tdO τ b = true))) [.ref (ad 0), .int (iI ((b : Int)))].toArray s 0 0 (NoA)) (F0 m 17 ls []) := by
      intro n17
      induction n17 with
      | zero => intro k x2 x3 ex2 ex3 hk1 hk2; exact absurd hk2 (by omega)
      | succ n17 ih17 =>
        intro k x2 x3 ex2 ex3 hk1 hk2  ls hl
        subst ex2
        subst ex3
        refine lv_iload_n hx hb dX8_isTold_17 rfl (lv_at hl 1 rfl) ?_
        refine lv_aload_n hx hb dX8_isTold_18 rfl (lv_at hl 2 rfl) ?_
        refine m_get hx hb hts hin8 hown hK hW 19 (by decide) (hts _ (by decide +kernel)) (v := .ref (ad 19)) rfl dX8_isTold_19 ?_
        refine lv_iload_n hx hb dX8_isTold_22 rfl (lv_at hl 3 rfl) ?_
        refine m_ald (d := 19) (j := b) hx hb hK hW rfl (by omega) (show b < 6 from by omega) dX8_isTold_23 ?_
        have r1 : (0 : Int) ≤ τ 19 b ∧ τ 19 b ≤ 16 := hI 19 b
        refine z_icmp_ge (tgt := 57) hx hb (by omega) (by omega) dX8_isTold_24 (by decide) (fun c2 => ?_) (fun c2 => ?_)
        · refine lv_iload_n hx hb dX8_isTold_57 rfl (lv_at hl 0 rfl) ?_
          exact s_zret hx hb hr hlocks (by unfold tdO; rw [hN2, show N = k by omega]) dX8_isTold_58
        · have jn50 : ∀ xj : Int, xj = bI (tdK τ b (k + 1) = true) → ∀ ls : Array Slot, lv_has ls 4 [(2, .int (iI (bI (tdK τ b k = true)))), (3, .int (iI ((k : Int)))), (0, .ref (ad 0)), (1, .int (iI ((b : Int))))] → W p l e { frames := 0, cells := 0, slots := 0, locals := 0 } s m [.ref (ad 0), .int (iI ((b : Int)))].toArray below meth c s.heap [] 0 0 (MQ below (rS (bI (tdO τ b = true))) [.ref (ad 0), .int (iI ((b : Int)))].toArray s 0 0 (NoA)) (F0 m 50 ls (.int (iI xj) :: [])) := by
            intro xj ej ls hl
            subst ej
            refine lv_istore_n (lv' := [(2, .int (iI (bI (tdK τ b (k + 1) = true)))), (3, .int (iI ((k : Int)))), (0, .ref (ad 0)), (1, .int (iI ((b : Int))))]) hx hb dX8_isTold_50 rfl hl (by decide) rfl (fun ls hl => ?_)
            refine z_iinc (k := 1) (lv' := [(3, .int (iI ((k : Int) + 1))), (2, .int (iI (bI (tdK τ b (k + 1) = true)))), (0, .ref (ad 0)), (1, .int (iI ((b : Int))))]) hx hb dX8_isTold_51 hl rfl (by decide) rfl (fun ls hl => ?_)
            refine lv_goto (tgt := 17) hx hb dX8_isTold_54 (by decide) ?_
            exact ih17 (k + 1) (bI (tdK τ b (k + 1) = true)) ((k : Int) + 1) rfl (by omega) (by omega) (by omega)  ls (lv_sub hl [1, 0, 2, 3] rfl)
          refine lv_iload_n hx hb dX8_isTold_27 rfl (lv_at hl 0 rfl) ?_
          refine z_if_eqB (tgt := 49) hx hb dX8_isTold_28 (by decide) (fun c3 => ?_) (fun c3 => ?_)
          · refine z_iconst hx hb dX8_isTold_49 ?_
            exact jn50 0 (by first | rw [bI_f (by rw [tdK_s]; simp [c3])] | rw [bI_f (by rw [tdK_s]; simp [c3, c2])]) ls (lv_sub hl [0, 1, 2, 3] rfl)
          · refine lv_aload_n hx hb dX8_isTold_31 rfl (lv_at hl 2 rfl) ?_
            refine m_get hx hb hts hin8 hown hK hW 23 (by decide) (hts _ (by decide +kernel)) (v := .ref (ad 23)) rfl dX8_isTold_32 ?_
            refine z_bipush hx hb dX8_isTold_35 (by decide) ?_
            refine lv_iload_n hx hb dX8_isTold_37 rfl (lv_at hl 3 rfl) ?_
            refine z_imul hx hb dX8_isTold_38 ?_
            refine lv_iload_n hx hb dX8_isTold_39 rfl (lv_at hl 1 rfl) ?_
            refine z_iadd hx hb dX8_isTold_40 ?_
            refine m_zld (d := 23) (j := (16 * b) + k) hx hb hK hW rfl (by omega) (show (16 * b) + k < 96 from by omega) dX8_isTold_41 ?_
            have r4 : (0 : Int) ≤ τ 23 ((16 * b) + k) ∧ τ 23 ((16 * b) + k) ≤ 1 := hI 23 ((16 * b) + k)
            refine z_if_eq (tgt := 49) hx hb (by omega) dX8_isTold_42 (by decide) (fun c5 => ?_) (fun c5 => ?_)
            · refine z_iconst hx hb dX8_isTold_49 ?_
              exact jn50 0 (by first | rw [bI_f (by rw [tdK_s]; simp [c5])] | rw [bI_f (by rw [tdK_s]; simp [c5, c3])]) ls (lv_sub hl [0, 1, 2, 3] rfl)
            · refine z_iconst hx hb dX8_isTold_45 ?_
              refine lv_goto (tgt := 50) hx hb dX8_isTold_46 (by decide) ?_
              exact jn50 1 (by rw [bI_t (by rw [tdK_s]; simp [c5, c3])]) ls (lv_sub hl [0, 1, 2, 3] rfl)
    exact lp17 (N + 1) 0 (bI (tdK τ b 0 = true)) 0 rfl (by omega) (by omega) (by omega)  ls (lv_sub hl [1, 0, 2, 3] rfl)
  refine lv_aload_n hx hb dX8_isTold_0 rfl (lv_at hl 0 rfl) ?_
  refine m_get hx hb hts hin8 hown hK hW 19 (by decide) (hts _ (by decide +kernel)) (v := .ref (ad 19)) rfl dX8_isTold_1 ?_
  refine lv_iload_n hx hb dX8_isTold_4 rfl (lv_at hl 1 rfl) ?_
  refine m_ald (d := 19) (j := b) hx hb hK hW rfl (by omega) (show b < 6 from by omega) dX8_isTold_5 ?_
  have r6 : (0 : Int) ≤ τ 19 b ∧ τ 19 b ≤ 16 := hI 19 b
  refine z_if_le (tgt := 13) hx hb (by omega) dX8_isTold_6 (by decide) (fun c7 => ?_) (fun c7 => ?_)
  · refine z_iconst hx hb dX8_isTold_13 ?_
    exact jn14 0 (bI_f (by simp [tdK, als]; omega)).symm ls (lv_sub hl [0, 1] rfl)
  · refine z_iconst hx hb dX8_isTold_9 ?_
    refine lv_goto (tgt := 14) hx hb dX8_isTold_10 (by decide) ?_
    exact jn14 1 (bI_t (by simp [tdK, als]; omega)).symm ls (lv_sub hl [0, 1] rfl)
set_option maxHeartbeats 4000000 in
set_option maxRecDepth 100000 in
theorem c8_faultOf (l : Launch) (D : va_G) (cI cZ : ClassId) (ad : Nat → Nat) (τ : Tau) (hI : Rng τ) (b : Nat) (zb : Int) (hzb : zb = (b : Int)) (h0 : b < 6) (hw : WhP τ b) : Met l yX8_faultOf wsX8_faultOf { frames := 2, cells := 0, slots := 0, locals := 46 } (mPc D cI cZ ad τ [.ref (ad 0), .int (iI zb)]) (rS (ftO τ b)) 0 0 NoA := by
  subst hzb
  refine m_start (by decide) rfl (Nat.le_of_ble_eq_true rfl) ?_
  intro p e s m below meth c hx hb hr hlocks hml hts hown hW hK ls hl
  have hin8 : ∀ w ∈ wsX80, w ∈ wsX8_faultOf := by decide +kernel
  have hl : lv_has ls 3 [(0, .ref (ad 0)), (1, .int (iI ((b : Int))))] := hl
  obtain ⟨N, hN⟩ : ∃ N : Nat, τ 19 b = N := ⟨(τ 19 b).toNat, by have : (0 : Int) ≤ τ 19 b ∧ τ 19 b ≤ 16 := hI 19 b; omega⟩
  have hN2 : (τ 19 b).toNat = N := by omega
  have hN3 : N ≤ 16 := by have : (0 : Int) ≤ τ 19 b ∧ τ 19 b ≤ 16 := hI 19 b; omega
  refine z_iconst hx hb dX8_faultOf_0 ?_
  refine lv_istore_n (lv' := [(2, .int (iI (0))), (0, .ref (ad 0)), (1, .int (iI ((b : Int))))]) hx hb dX8_faultOf_1 rfl hl (by decide) rfl (fun ls hl => ?_)
  have lp2 : ∀ (n2 k : Nat) (x2 : Int), x2 = (k : Int) → k ≤ N → N + 1 ≤ k + n2 → (∀ j, j < k → (fun q => !gdB τ b q) j = false) → ∀ ls : Array Slot, lv_has ls 3 [(2, .int (iI (x2))), (0, .ref (ad 0)), (1, .int (iI ((b : Int))))] → W p l e { frames := 2, cells := 0, slots := 0, locals := 46 } s m [.ref (ad 0), .int (iI ((b : Int)))].toArray below meth c s.heap [] 0 0 (MQ below (rS (ftO τ b)) [.ref (ad 0), .int (iI ((b : Int)))].toArray s 0 0 (NoA)) (F0 m 2 ls []) := by
    intro n2
    induction n2 with
    | zero => intro k x2 ex2 hk1 hk2; exact absurd hk2 (by omega)
    | succ n2 ih2 =>
      intro k x2 ex2 hk1 hk2 hn ls hl
      subst ex2
      refine lv_iload_n hx hb dX8_faultOf_2 rfl (lv_at hl 0 rfl) ?_
      refine lv_aload_n hx hb dX8_faultOf_3 rfl (lv_at hl 1 rfl) ?_
      refine m_get hx hb hts hin8 hown hK hW 19 (by decide) (hts _ (by decide +kernel)) (v := .ref (ad 19)) rfl dX8_faultOf_4 ?_
      refine lv_iload_n hx hb dX8_faultOf_7 rfl (lv_at hl 2 rfl) ?_
      refine m_ald (d := 19) (j := b) hx hb hK hW rfl (by omega) (show b < 6 from by omega) dX8_faultOf_8 ?_
      have r1 : (0 : Int) ≤ τ 19 b ∧ τ 19 b ≤ 16 := hI 19 b
      refine z_icmp_ge (tgt := 29) hx hb (by omega) (by omega) dX8_faultOf_9 (by decide) (fun c2 => ?_) (fun c2 => ?_)
      · refine z_iconst hx hb dX8_faultOf_29 ?_
        exact s_iret hx hb hr hlocks (by unfold ftO; rw [hN2, show N = k by omega]; exact (ff_no hn).symm) dX8_faultOf_30
      · refine lv_aload_n hx hb dX8_faultOf_12 rfl (lv_at hl 1 rfl) ?_
        refine lv_iload_n hx hb dX8_faultOf_13 rfl (lv_at hl 2 rfl) ?_
        refine lv_iload_n hx hb dX8_faultOf_14 rfl (lv_at hl 0 rfl) ?_
        refine m_call (n := 2) (As := [.int (iI ((b : Int))), .int (iI ((k : Int)))]) (rest := []) hx hb hml hts hown hK hW (c8_isGood l D cI cZ ad τ hI b (b : Int) (by omega) k (k : Int) (by omega) (by omega) (by omega) (fun h3 => by have := hw k (by omega) (by omega) h3; omega)) gX8_faultOf_X8_isGood rfl rfl rfl (by decide +kernel) ⟨by decide, by decide⟩ rfl hl.1 rfl (Nat.le_of_ble_eq_true rfl) ⟨Nat.zero_le _, Nat.zero_le _⟩ dX8_faultOf_15 ?_
        refine z_if_neB (tgt := 23) hx hb dX8_faultOf_18 (by decide) (fun c3 => ?_) (fun c3 => ?_)
        · refine z_iinc (k := 0) (lv' := [(2, .int (iI ((k : Int) + 1))), (0, .ref (ad 0)), (1, .int (iI ((b : Int))))]) hx hb dX8_faultOf_23 hl rfl (by decide) rfl (fun ls hl => ?_)
          refine lv_goto (tgt := 2) hx hb dX8_faultOf_26 (by decide) ?_
          exact ih2 (k + 1) ((k : Int) + 1) (by omega) (by omega) (by omega) (fl_s hn (by show (!gdB τ b k) = false; unfold gdB; rw [decide_eq_true c3]; rfl)) ls (lv_sub hl [0, 1, 2] rfl)
        · refine lv_iload_n hx hb dX8_faultOf_21 rfl (lv_at hl 0 rfl) ?_
          exact s_iret hx hb hr hlocks (by unfold ftO; rw [hN2]; exact (ff_at hn (by show (!gdB τ b k) = true; unfold gdB; rw [decide_eq_false c3]; rfl) (by omega)).symm) dX8_faultOf_22
  exact lp2 (N + 1) 0 0 (by omega) (by omega) (by omega) fl_0 ls (lv_sub hl [0, 1, 2] rfl)
set_option maxHeartbeats 4000000 in
set_option maxRecDepth 100000 in
theorem c8_isSound (l : Launch) (D : va_G) (cI cZ : ClassId) (ad : Nat → Nat) (τ : Tau) (hI : Rng τ) (b : Nat) (zb : Int) (hzb : zb = (b : Int)) (h0 : b < 6) (hw : WhP τ b) : Met l yX8_isSound wsX8_isSound { frames := 3, cells := 0, slots := 0, locals := 68 } (mPc D cI cZ ad τ [.ref (ad 0), .int (iI zb)]) (rS (bI (snB τ b = true))) 0 0 NoA := by
  subst hzb
  refine m_start (by decide) rfl (Nat.le_of_ble_eq_true rfl) ?_
  intro p e s m below meth c hx hb hr hlocks hml hts hown hW hK ls hl
  have hin8 : ∀ w ∈ wsX80, w ∈ wsX8_isSound := by decide +kernel
  have hl : lv_has ls 2 [(0, .ref (ad 0)), (1, .int (iI ((b : Int))))] := hl
  refine lv_aload_n hx hb dX8_isSound_0 rfl (lv_at hl 0 rfl) ?_
  refine lv_iload_n hx hb dX8_isSound_1 rfl (lv_at hl 1 rfl) ?_
  refine m_call (n := 1) (As := [.int (iI ((b : Int)))]) (rest := []) hx hb hml hts hown hK hW (c8_isTold l D cI cZ ad τ hI b (b : Int) (by omega) (by omega)) gX8_isSound_X8_isTold rfl rfl rfl (by decide +kernel) ⟨by decide, by decide⟩ rfl hl.1 rfl (Nat.le_of_ble_eq_true rfl) ⟨Nat.zero_le _, Nat.zero_le _⟩ dX8_isSound_2 ?_
  refine z_if_eqB (tgt := 21) hx hb dX8_isSound_5 (by decide) (fun c1 => ?_) (fun c1 => ?_)
  · refine z_iconst hx hb dX8_isSound_21 ?_
    exact s_zret hx hb hr hlocks ((by first | exact (bI_f (by unfold snB; simp [c1])).symm | exact (bI_f (by unfold snB; simp [c1, hx])).symm)) dX8_isSound_22
  · refine lv_aload_n hx hb dX8_isSound_8 rfl (lv_at hl 0 rfl) ?_
    refine lv_iload_n hx hb dX8_isSound_9 rfl (lv_at hl 1 rfl) ?_
    refine m_call (n := 1) (As := [.int (iI ((b : Int)))]) (rest := []) hx hb hml hts hown hK hW (c8_faultOf l D cI cZ ad τ hI b (b : Int) (by omega) (by omega) hw) gX8_isSound_X8_faultOf rfl rfl rfl (by decide +kernel) ⟨by decide, by decide⟩ rfl hl.1 rfl (Nat.le_of_ble_eq_true rfl) ⟨Nat.zero_le _, Nat.zero_le _⟩ dX8_isSound_10 ?_
    have r2 := ft_r hI b
    refine z_iconst hx hb dX8_isSound_13 ?_
    refine z_icmp_ne (tgt := 21) hx hb (by omega) (by omega) dX8_isSound_14 (by decide) (fun c3 => ?_) (fun c3 => ?_)
    · refine z_iconst hx hb dX8_isSound_21 ?_
      exact s_zret hx hb hr hlocks ((by first | exact (bI_f (by unfold snB; simp [c3])).symm | exact (bI_f (by unfold snB; simp [c3, c1])).symm)) dX8_isSound_22
    · refine z_iconst hx hb dX8_isSound_17 ?_
      refine lv_goto (tgt := 22) hx hb dX8_isSound_18 (by decide) ?_
      exact s_zret hx hb hr hlocks ((bI_t (by unfold snB; rw [c1, decide_eq_true c3]; rfl)).symm) dX8_isSound_22
def spSound (τ : Tau) (a : Int) : Int := if ¬ (0 ≤ a ∧ a < τ 18 0) then -101 else if ¬ tdO τ a.toNat = true then -103 else if snB τ a.toNat = true then 1 else 0
def spFault (τ : Tau) (a : Int) : Int := if ¬ (0 ≤ a ∧ a < τ 18 0) then -101 else if ¬ tdO τ a.toNat = true then -103 else ftO τ a.toNat
def spSwap (τ : Tau) (a : Int) : Int := if ¬ (0 ≤ a ∧ a < τ 18 0) then -101 else if ¬ tdO τ a.toNat = true then -103 else if snB τ a.toNat = true then -1 else swO τ a.toNat
abbrev okExch (τ : Tau) (a u : Int) : Prop := ((0 ≤ a ∧ a < τ 18 0) ∧ (0 ≤ u ∧ u + 1 < τ 19 a.toNat)) ∧ (¬ τ 23 (16 * a.toNat + u.toNat) = 0 ∧ ¬ τ 23 (16 * a.toNat + u.toNat + 1) = 0)
def spExch (τ : Tau) (a u : Int) : Int := if ¬ ((0 ≤ a ∧ a < τ 18 0) ∧ (0 ≤ u ∧ u + 1 < τ 19 a.toNat)) then -101 else if ¬ (¬ τ 23 (16 * a.toNat + u.toNat) = 0 ∧ ¬ τ 23 (16 * a.toNat + u.toNat + 1) = 0) then -103 else 1
def stExch (τ : Tau) (a u : Int) : Tau := if okExch τ a u then tnT τ a.toNat u.toNat else τ
def abO (τ : Tau) (q : Nat) (k : Int) : Int := if k = 0 then τ 20 q else if k = 1 then τ 21 q else if k = 2 then τ 22 q else if k = 3 then τ 23 q else if k = 4 then (if τ 23 q = 0 then 0 else τ 24 q) else -102
def spAbout (τ : Tau) (a b k : Int) : Int := if (0 ≤ a ∧ a < τ 18 0) ∧ (0 ≤ b ∧ b < τ 19 a.toNat) then abO τ (16 * a.toNat + b.toNat) k else -101
def spGrade (τ : Tau) (a u : Int) : Int := if ¬ (0 ≤ a ∧ a < τ 12 0) then -101 else if ¬ (0 ≤ u ∧ u ≤ 1) then -102 else if gaO τ a = -1 then -1 else if u = 0 then loO τ (gaO τ a).toNat else upO τ (gaO τ a).toNat
def snK (τ : Tau) (k : Nat) : Int := sm (fun b => bI (snB τ b = true)) k
def spCount (τ : Tau) (k : Int) : Int := if k = 0 then τ 0 0 else if k = 1 then τ 12 0 else if k = 2 then τ 18 0 else if k = 3 then τ 17 0 else if k = 4 then snK τ (τ 18 0).toNat else -102

set_option maxHeartbeats 4000000 in
set_option maxRecDepth 100000 in
theorem c8_sound (l : Launch) (D : va_G) (cI cZ : ClassId) (ad : Nat → Nat) (τ : Tau) (hI : Inv τ) (a : Int) (h_a : I32 a)  : Met l yX8_sound wsX8_sound { frames := 4, cells := 0, slots := 0, locals := 89 } (mPc D cI cZ ad τ [.ref (ad 0), .int (iI (a))]) (rS (spSound τ a)) 0 0 NoA := by
  refine m_start (by decide) rfl (Nat.le_of_ble_eq_true rfl) ?_
  intro p e s m below meth c hx hb hr hlocks hml hts hown hW hK ls hl
  have hin8 : ∀ w ∈ wsX80, w ∈ wsX8_sound := by decide +kernel
  have hl : lv_has ls 2 [(0, .ref (ad 0)), (1, .int (iI (a)))] := hl
  refine lv_aload_n hx hb dX8_sound_0 rfl (lv_at hl 0 rfl) ?_
  refine lv_iload_n hx hb dX8_sound_1 rfl (lv_at hl 1 rfl) ?_
  refine m_call (n := 1) (As := [.int (iI (a))]) (rest := []) hx hb hml hts hown hK hW (c8_isBatch l D cI cZ ad τ hI.1 a (by omega)) gX8_sound_X8_isBatch rfl rfl rfl (by decide +kernel) ⟨by decide, by decide⟩ rfl hl.1 rfl (Nat.le_of_ble_eq_true rfl) ⟨Nat.zero_le _, Nat.zero_le _⟩ dX8_sound_2 ?_
  have r1 := (show (0 : Int) ≤ τ 18 0 ∧ τ 18 0 ≤ 6 from hI.1 18 0)
  refine z_if_neB (tgt := 11) hx hb dX8_sound_5 (by decide) (fun c2 => ?_) (fun c2 => ?_)
  · refine lv_aload_n hx hb dX8_sound_11 rfl (lv_at hl 0 rfl) ?_
    refine lv_iload_n hx hb dX8_sound_12 rfl (lv_at hl 1 rfl) ?_
    refine m_call (n := 1) (As := [.int (iI (a))]) (rest := []) hx hb hml hts hown hK hW (c8_isTold l D cI cZ ad τ hI.1 a.toNat a (by omega) (by omega)) gX8_sound_X8_isTold rfl rfl rfl (by decide +kernel) ⟨by decide, by decide⟩ rfl hl.1 rfl (Nat.le_of_ble_eq_true rfl) ⟨Nat.zero_le _, Nat.zero_le _⟩ dX8_sound_13 ?_
    refine z_if_neB (tgt := 24) hx hb dX8_sound_16 (by decide) (fun c3 => ?_) (fun c3 => ?_)
    · refine lv_aload_n hx hb dX8_sound_24 rfl (lv_at hl 0 rfl) ?_
      refine lv_iload_n hx hb dX8_sound_25 rfl (lv_at hl 1 rfl) ?_
      refine m_call (n := 1) (As := [.int (iI (a))]) (rest := []) hx hb hml hts hown hK hW (c8_isSound l D cI cZ ad τ hI.1 a.toNat a (by omega) (by omega) (hI.wh _)) gX8_sound_X8_isSound rfl rfl rfl (by decide +kernel) ⟨by decide, by decide⟩ rfl hl.1 rfl (Nat.le_of_ble_eq_true rfl) ⟨Nat.zero_le _, Nat.zero_le _⟩ dX8_sound_26 ?_
      refine z_if_eqB (tgt := 36) hx hb dX8_sound_29 (by decide) (fun c4 => ?_) (fun c4 => ?_)
      · refine z_iconst hx hb dX8_sound_36 ?_
        exact s_iret hx hb hr hlocks (by unfold spSound; repeat (first | rw [if_pos (by first | assumption | omega)] | rw [if_neg (by first | assumption | omega | (intro hk; exact hk (by assumption)))])) dX8_sound_37
      · refine z_iconst hx hb dX8_sound_32 ?_
        refine lv_goto (tgt := 37) hx hb dX8_sound_33 (by decide) ?_
        exact s_iret hx hb hr hlocks (by unfold spSound; repeat (first | rw [if_pos (by first | assumption | omega)] | rw [if_neg (by first | assumption | omega | (intro hk; exact hk (by assumption)))])) dX8_sound_37
    · refine z_bipush hx hb dX8_sound_19 (by decide) ?_
      refine lv_goto (tgt := 37) hx hb dX8_sound_21 (by decide) ?_
      exact s_iret hx hb hr hlocks (by unfold spSound; repeat (first | rw [if_pos (by first | assumption | omega)] | rw [if_neg (by first | assumption | omega | (intro hk; exact hk (by assumption)))])) dX8_sound_37
  · refine z_bipush hx hb dX8_sound_8 (by decide) ?_
    exact s_iret hx hb hr hlocks (by unfold spSound; repeat (first | rw [if_pos (by first | assumption | omega)] | rw [if_neg (by first | assumption | omega | (intro hk; exact hk (by assumption)))])) dX8_sound_10
set_option maxHeartbeats 4000000 in
set_option maxRecDepth 100000 in
theorem c8_fault (l : Launch) (D : va_G) (cI cZ : ClassId) (ad : Nat → Nat) (τ : Tau) (hI : Inv τ) (a : Int) (h_a : I32 a)  : Met l yX8_fault wsX8_fault { frames := 3, cells := 0, slots := 0, locals := 68 } (mPc D cI cZ ad τ [.ref (ad 0), .int (iI (a))]) (rS (spFault τ a)) 0 0 NoA := by
  refine m_start (by decide) rfl (Nat.le_of_ble_eq_true rfl) ?_
  intro p e s m below meth c hx hb hr hlocks hml hts hown hW hK ls hl
  have hin8 : ∀ w ∈ wsX80, w ∈ wsX8_fault := by decide +kernel
  have hl : lv_has ls 2 [(0, .ref (ad 0)), (1, .int (iI (a)))] := hl
  refine lv_aload_n hx hb dX8_fault_0 rfl (lv_at hl 0 rfl) ?_
  refine lv_iload_n hx hb dX8_fault_1 rfl (lv_at hl 1 rfl) ?_
  refine m_call (n := 1) (As := [.int (iI (a))]) (rest := []) hx hb hml hts hown hK hW (c8_isBatch l D cI cZ ad τ hI.1 a (by omega)) gX8_fault_X8_isBatch rfl rfl rfl (by decide +kernel) ⟨by decide, by decide⟩ rfl hl.1 rfl (Nat.le_of_ble_eq_true rfl) ⟨Nat.zero_le _, Nat.zero_le _⟩ dX8_fault_2 ?_
  have r1 := (show (0 : Int) ≤ τ 18 0 ∧ τ 18 0 ≤ 6 from hI.1 18 0)
  refine z_if_neB (tgt := 11) hx hb dX8_fault_5 (by decide) (fun c2 => ?_) (fun c2 => ?_)
  · refine lv_aload_n hx hb dX8_fault_11 rfl (lv_at hl 0 rfl) ?_
    refine lv_iload_n hx hb dX8_fault_12 rfl (lv_at hl 1 rfl) ?_
    refine m_call (n := 1) (As := [.int (iI (a))]) (rest := []) hx hb hml hts hown hK hW (c8_isTold l D cI cZ ad τ hI.1 a.toNat a (by omega) (by omega)) gX8_fault_X8_isTold rfl rfl rfl (by decide +kernel) ⟨by decide, by decide⟩ rfl hl.1 rfl (Nat.le_of_ble_eq_true rfl) ⟨Nat.zero_le _, Nat.zero_le _⟩ dX8_fault_13 ?_
    refine z_if_eqB (tgt := 27) hx hb dX8_fault_16 (by decide) (fun c3 => ?_) (fun c3 => ?_)
    · refine z_bipush hx hb dX8_fault_27 (by decide) ?_
      exact s_iret hx hb hr hlocks (by unfold spFault; repeat (first | rw [if_pos (by first | assumption | omega)] | rw [if_neg (by first | assumption | omega | (intro hk; exact hk (by assumption)))])) dX8_fault_29
    · refine lv_aload_n hx hb dX8_fault_19 rfl (lv_at hl 0 rfl) ?_
      refine lv_iload_n hx hb dX8_fault_20 rfl (lv_at hl 1 rfl) ?_
      refine m_call (n := 1) (As := [.int (iI (a))]) (rest := []) hx hb hml hts hown hK hW (c8_faultOf l D cI cZ ad τ hI.1 a.toNat a (by omega) (by omega) (hI.wh _)) gX8_fault_X8_faultOf rfl rfl rfl (by decide +kernel) ⟨by decide, by decide⟩ rfl hl.1 rfl (Nat.le_of_ble_eq_true rfl) ⟨Nat.zero_le _, Nat.zero_le _⟩ dX8_fault_21 ?_
      have r4 := ft_r hI.1 a.toNat
      refine lv_goto (tgt := 29) hx hb dX8_fault_24 (by decide) ?_
      exact s_iret hx hb hr hlocks (by unfold spFault; repeat (first | rw [if_pos (by first | assumption | omega)] | rw [if_neg (by first | assumption | omega | (intro hk; exact hk (by assumption)))])) dX8_fault_29
  · refine z_bipush hx hb dX8_fault_8 (by decide) ?_
    exact s_iret hx hb hr hlocks (by unfold spFault; repeat (first | rw [if_pos (by first | assumption | omega)] | rw [if_neg (by first | assumption | omega | (intro hk; exact hk (by assumption)))])) dX8_fault_10
set_option maxHeartbeats 4000000 in
set_option maxRecDepth 100000 in
theorem c8_turn (l : Launch) (D : va_G) (cI cZ : ClassId) (ad : Nat → Nat) (τ : Tau) (hI : Rng τ) (b : Nat) (zb : Int) (hzb : zb = (b : Int)) (q : Nat) (zq : Int) (hzq : zq = (q : Int)) (h0 : b < 6) (h1 : q < 15) : Met l yX8_turn wsX8_turn { frames := 0, cells := 0, slots := 0, locals := 0 } (mPc D cI cZ ad τ [.ref (ad 0), .int (iI zb), .int (iI zq)]) (mQ D cI cZ ad (none) (tnT τ b q)) 0 0 (MA ad) := by
  subst hzb
  subst hzq
  refine m_start (by decide) rfl (Nat.le_of_ble_eq_true rfl) ?_
  intro p e s m below meth c hx hb hr hlocks hml hts hown hW hK ls hl
  have hin8 : ∀ w ∈ wsX80, w ∈ wsX8_turn := by decide +kernel
  have hS : va_S (MA ad) s.heap s.heap [] := va_S.rf
  have hz : s.heap.size = s.heap.size := rfl
  have hR : Rng τ := hI
  have hl : lv_has ls 4 [(0, .ref (ad 0)), (1, .int (iI ((b : Int)))), (2, .int (iI ((q : Int))))] := hl
  refine lv_aload_n hx hb dX8_turn_0 rfl (lv_at hl 0 rfl) ?_
  refine m_get hx hb hts hin8 hown hK hW 24 (by decide) (hts _ (by decide +kernel)) (v := .ref (ad 24)) rfl dX8_turn_1 ?_
  refine z_bipush hx hb dX8_turn_4 (by decide) ?_
  refine lv_iload_n hx hb dX8_turn_6 rfl (lv_at hl 1 rfl) ?_
  refine z_imul hx hb dX8_turn_7 ?_
  refine lv_iload_n hx hb dX8_turn_8 rfl (lv_at hl 2 rfl) ?_
  refine z_iadd hx hb dX8_turn_9 ?_
  refine m_ald (d := 24) (j := (16 * b) + q) hx hb hK hW rfl (by omega) (show (16 * b) + q < 96 from by omega) dX8_turn_10 ?_
  have r1 : (-1000 : Int) ≤ τ 24 ((16 * b) + q) ∧ τ 24 ((16 * b) + q) ≤ 100000 := hI 24 ((16 * b) + q)
  refine lv_istore_n (lv' := [(3, .int (iI (τ 24 ((16 * b) + q)))), (0, .ref (ad 0)), (1, .int (iI ((b : Int)))), (2, .int (iI ((q : Int))))]) hx hb dX8_turn_11 rfl hl (by decide) rfl (fun ls hl => ?_)
  refine lv_aload_n hx hb dX8_turn_12 rfl (lv_at hl 1 rfl) ?_
  refine m_get hx hb hts hin8 hown hK hW 24 (by decide) (hts _ (by decide +kernel)) (v := .ref (ad 24)) rfl dX8_turn_13 ?_
  refine z_bipush hx hb dX8_turn_16 (by decide) ?_
  refine lv_iload_n hx hb dX8_turn_18 rfl (lv_at hl 2 rfl) ?_
  refine z_imul hx hb dX8_turn_19 ?_
  refine lv_iload_n hx hb dX8_turn_20 rfl (lv_at hl 3 rfl) ?_
  refine z_iadd hx hb dX8_turn_21 ?_
  refine lv_aload_n hx hb dX8_turn_22 rfl (lv_at hl 1 rfl) ?_
  refine m_get hx hb hts hin8 hown hK hW 24 (by decide) (hts _ (by decide +kernel)) (v := .ref (ad 24)) rfl dX8_turn_23 ?_
  refine z_bipush hx hb dX8_turn_26 (by decide) ?_
  refine lv_iload_n hx hb dX8_turn_28 rfl (lv_at hl 2 rfl) ?_
  refine z_imul hx hb dX8_turn_29 ?_
  refine lv_iload_n hx hb dX8_turn_30 rfl (lv_at hl 3 rfl) ?_
  refine z_iadd hx hb dX8_turn_31 ?_
  refine z_iconst hx hb dX8_turn_32 ?_
  refine z_iadd hx hb dX8_turn_33 ?_
  refine m_ald (d := 24) (j := ((16 * b) + q) + 1) hx hb hK hW rfl (by omega) (show ((16 * b) + q) + 1 < 96 from by omega) dX8_turn_34 ?_
  have r2 : (-1000 : Int) ≤ τ 24 (((16 * b) + q) + 1) ∧ τ 24 (((16 * b) + q) + 1) ≤ 100000 := hI 24 (((16 * b) + q) + 1)
  refine m_ast (d := 24) (j := (16 * b) + q) (v := τ 24 (((16 * b) + q) + 1)) hx hb hK hW hS hz rfl (by omega) (show (16 * b) + q < 96 from by omega) dX8_turn_35 (fun H locs hW hS hz => ?_)
  have hR := Rng.tu (c := 24) (i := (16 * b) + q) (v := τ 24 (((16 * b) + q) + 1)) hR (show (-1000 : Int) ≤ τ 24 (((16 * b) + q) + 1) from by omega) (show τ 24 (((16 * b) + q) + 1) ≤ 100000 from by omega)
  refine lv_aload_n hx hb dX8_turn_36 rfl (lv_at hl 1 rfl) ?_
  refine m_get hx hb hts hin8 hown hK hW 24 (by decide) (hts _ (by decide +kernel)) (v := .ref (ad 24)) rfl dX8_turn_37 ?_
  refine z_bipush hx hb dX8_turn_40 (by decide) ?_
  refine lv_iload_n hx hb dX8_turn_42 rfl (lv_at hl 2 rfl) ?_
  refine z_imul hx hb dX8_turn_43 ?_
  refine lv_iload_n hx hb dX8_turn_44 rfl (lv_at hl 3 rfl) ?_
  refine z_iadd hx hb dX8_turn_45 ?_
  refine z_iconst hx hb dX8_turn_46 ?_
  refine z_iadd hx hb dX8_turn_47 ?_
  refine lv_iload_n hx hb dX8_turn_48 rfl (lv_at hl 0 rfl) ?_
  refine m_ast (d := 24) (j := ((16 * b) + q) + 1) (v := τ 24 ((16 * b) + q)) hx hb hK hW hS hz rfl (by omega) (show ((16 * b) + q) + 1 < 96 from by omega) dX8_turn_49 (fun H locs hW hS hz => ?_)
  have hR := Rng.tu (c := 24) (i := ((16 * b) + q) + 1) (v := τ 24 ((16 * b) + q)) hR (show (-1000 : Int) ≤ τ 24 ((16 * b) + q) from by omega) (show τ 24 ((16 * b) + q) ≤ 100000 from by omega)
  exact m_vret hx hb hr hlocks (hW) hS hz dX8_turn_50
set_option maxHeartbeats 4000000 in
set_option maxRecDepth 100000 in
theorem c8_exchange (l : Launch) (D : va_G) (cI cZ : ClassId) (ad : Nat → Nat) (τ : Tau) (hI : Rng τ) (a : Int) (h_a : I32 a) (u : Int) (h_u : I32 u)  : Met l yX8_exchange wsX8_exchange { frames := 3, cells := 0, slots := 0, locals := 68 } (mPc D cI cZ ad τ [.ref (ad 0), .int (iI (a)), .int (iI (u))]) (mQ D cI cZ ad (some (.int (iI (spExch τ a u)))) (stExch τ a u)) 0 0 (MA ad) := by
  refine m_start (by decide) rfl (Nat.le_of_ble_eq_true rfl) ?_
  intro p e s m below meth c hx hb hr hlocks hml hts hown hW hK ls hl
  have hin8 : ∀ w ∈ wsX80, w ∈ wsX8_exchange := by decide +kernel
  have hS : va_S (MA ad) s.heap s.heap [] := va_S.rf
  have hz : s.heap.size = s.heap.size := rfl
  have hR : Rng τ := hI
  have hl : lv_has ls 3 [(0, .ref (ad 0)), (1, .int (iI (a))), (2, .int (iI (u)))] := hl
  refine lv_aload_n hx hb dX8_exchange_0 rfl (lv_at hl 0 rfl) ?_
  refine lv_iload_n hx hb dX8_exchange_1 rfl (lv_at hl 1 rfl) ?_
  refine lv_iload_n hx hb dX8_exchange_2 rfl (lv_at hl 2 rfl) ?_
  refine m_call (n := 2) (As := [.int (iI (a)), .int (iI (u))]) (rest := []) hx hb hml hts hown hK hW (c8_isPlace l D cI cZ ad τ hI a (by omega) u (by omega)) gX8_exchange_X8_isPlace rfl rfl rfl (by decide +kernel) ⟨by decide, by decide⟩ rfl hl.1 rfl (Nat.le_of_ble_eq_true rfl) ⟨Nat.zero_le _, Nat.zero_le _⟩ dX8_exchange_3 ?_
  have r1 := (show (0 : Int) ≤ τ 18 0 ∧ τ 18 0 ≤ 6 from hI 18 0)
  have r2 := (show (0 : Int) ≤ τ 19 a.toNat ∧ τ 19 a.toNat ≤ 16 from hI 19 a.toNat)
  refine z_if_eqB (tgt := 20) hx hb dX8_exchange_6 (by decide) (fun c3 => ?_) (fun c3 => ?_)
  · refine z_bipush hx hb dX8_exchange_20 (by decide) ?_
    exact m_iret hx hb hr hlocks (by unfold stExch; rw [if_neg (fun hk => by first | omega | exact hk.1 (by assumption) | exact hk.2.1 (by assumption) | exact hk.2.2.1 (by assumption) | exact hk.2.2.2.1 (by assumption) | exact hk.2.2.2 (by assumption) | exact hk.2.2.2.2 (by assumption))]; exact hW) hS hz (by unfold spExch; repeat (first | rw [if_pos (by first | assumption | omega)] | rw [if_neg (by first | assumption | omega | (intro hk; exact hk (by assumption)))])) dX8_exchange_22
  · refine lv_aload_n hx hb dX8_exchange_9 rfl (lv_at hl 0 rfl) ?_
    refine lv_iload_n hx hb dX8_exchange_10 rfl (lv_at hl 1 rfl) ?_
    refine lv_iload_n hx hb dX8_exchange_11 rfl (lv_at hl 2 rfl) ?_
    refine z_iconst hx hb dX8_exchange_12 ?_
    refine z_iadd hx hb dX8_exchange_13 ?_
    refine m_call (n := 2) (As := [.int (iI (a)), .int (iI (u + 1))]) (rest := []) hx hb hml hts hown hK hW (c8_isPlace l D cI cZ ad τ hI a (by omega) (u + 1) (by omega)) gX8_exchange_X8_isPlace rfl rfl rfl (by decide +kernel) ⟨by decide, by decide⟩ rfl hl.1 rfl (Nat.le_of_ble_eq_true rfl) ⟨Nat.zero_le _, Nat.zero_le _⟩ dX8_exchange_14 ?_
    have r4 := (show (0 : Int) ≤ τ 18 0 ∧ τ 18 0 ≤ 6 from hI 18 0)
    have r5 := (show (0 : Int) ≤ τ 19 a.toNat ∧ τ 19 a.toNat ≤ 16 from hI 19 a.toNat)
    refine z_if_neB (tgt := 23) hx hb dX8_exchange_17 (by decide) (fun c6 => ?_) (fun c6 => ?_)
    · refine lv_aload_n hx hb dX8_exchange_23 rfl (lv_at hl 0 rfl) ?_
      refine m_get hx hb hts hin8 hown hK hW 23 (by decide) (hts _ (by decide +kernel)) (v := .ref (ad 23)) rfl dX8_exchange_24 ?_
      refine z_bipush hx hb dX8_exchange_27 (by decide) ?_
      refine lv_iload_n hx hb dX8_exchange_29 rfl (lv_at hl 1 rfl) ?_
      refine z_imul hx hb dX8_exchange_30 ?_
      refine lv_iload_n hx hb dX8_exchange_31 rfl (lv_at hl 2 rfl) ?_
      refine z_iadd hx hb dX8_exchange_32 ?_
      refine m_zld (d := 23) (j := (16 * a.toNat) + u.toNat) hx hb hK hW rfl (by omega) (show (16 * a.toNat) + u.toNat < 96 from by omega) dX8_exchange_33 ?_
      have r7 : (0 : Int) ≤ τ 23 ((16 * a.toNat) + u.toNat) ∧ τ 23 ((16 * a.toNat) + u.toNat) ≤ 1 := hI 23 ((16 * a.toNat) + u.toNat)
      refine z_if_eq (tgt := 53) hx hb (by omega) dX8_exchange_34 (by decide) (fun c8 => ?_) (fun c8 => ?_)
      · refine z_bipush hx hb dX8_exchange_53 (by decide) ?_
        exact m_iret hx hb hr hlocks (by unfold stExch; rw [if_neg (fun hk => by first | omega | exact hk.1 (by assumption) | exact hk.2.1 (by assumption) | exact hk.2.2.1 (by assumption) | exact hk.2.2.2.1 (by assumption) | exact hk.2.2.2 (by assumption) | exact hk.2.2.2.2 (by assumption))]; exact hW) hS hz (by unfold spExch; repeat (first | rw [if_pos (by first | assumption | omega)] | rw [if_neg (by first | assumption | omega | (intro hk; exact hk (by assumption)))])) dX8_exchange_55
      · refine lv_aload_n hx hb dX8_exchange_37 rfl (lv_at hl 0 rfl) ?_
        refine m_get hx hb hts hin8 hown hK hW 23 (by decide) (hts _ (by decide +kernel)) (v := .ref (ad 23)) rfl dX8_exchange_38 ?_
        refine z_bipush hx hb dX8_exchange_41 (by decide) ?_
        refine lv_iload_n hx hb dX8_exchange_43 rfl (lv_at hl 1 rfl) ?_
        refine z_imul hx hb dX8_exchange_44 ?_
        refine lv_iload_n hx hb dX8_exchange_45 rfl (lv_at hl 2 rfl) ?_
        refine z_iadd hx hb dX8_exchange_46 ?_
        refine z_iconst hx hb dX8_exchange_47 ?_
        refine z_iadd hx hb dX8_exchange_48 ?_
        refine m_zld (d := 23) (j := ((16 * a.toNat) + u.toNat) + 1) hx hb hK hW rfl (by omega) (show ((16 * a.toNat) + u.toNat) + 1 < 96 from by omega) dX8_exchange_49 ?_
        have r9 : (0 : Int) ≤ τ 23 (((16 * a.toNat) + u.toNat) + 1) ∧ τ 23 (((16 * a.toNat) + u.toNat) + 1) ≤ 1 := hI 23 (((16 * a.toNat) + u.toNat) + 1)
        refine z_if_ne (tgt := 56) hx hb (by omega) dX8_exchange_50 (by decide) (fun c10 => ?_) (fun c10 => ?_)
        · refine lv_aload_n hx hb dX8_exchange_56 rfl (lv_at hl 0 rfl) ?_
          refine lv_iload_n hx hb dX8_exchange_57 rfl (lv_at hl 1 rfl) ?_
          refine lv_iload_n hx hb dX8_exchange_58 rfl (lv_at hl 2 rfl) ?_
          refine m_callW (n := 2) (As := [.int (iI (a)), .int (iI (u))]) (rest := []) hx hb hml hts hown hK hW hS hz (c8_turn l D cI cZ ad τ hI a.toNat a (by omega) u.toNat u (by omega) (by omega) (by omega)) gX8_exchange_X8_turn rfl rfl rfl (by decide +kernel) ⟨by decide, by decide⟩ rfl hl.1 rfl (Nat.le_of_ble_eq_true rfl) ⟨Nat.zero_le _, Nat.zero_le _⟩ dX8_exchange_59 (fun H locs hW hS hz => ?_)
          refine z_iconst hx hb dX8_exchange_62 ?_
          exact m_iret hx hb hr hlocks (by unfold stExch; rw [if_pos (by refine ⟨?_, ?_⟩ <;> first | omega | assumption)]; exact hW) hS hz (by unfold spExch; repeat (first | rw [if_pos (by first | assumption | omega)] | rw [if_neg (by first | assumption | omega | (intro hk; exact hk (by assumption)))])) dX8_exchange_63
        · refine z_bipush hx hb dX8_exchange_53 (by decide) ?_
          exact m_iret hx hb hr hlocks (by unfold stExch; rw [if_neg (fun hk => by first | omega | exact hk.1 (by assumption) | exact hk.2.1 (by assumption) | exact hk.2.2.1 (by assumption) | exact hk.2.2.2.1 (by assumption) | exact hk.2.2.2 (by assumption) | exact hk.2.2.2.2 (by assumption))]; exact hW) hS hz (by unfold spExch; repeat (first | rw [if_pos (by first | assumption | omega)] | rw [if_neg (by first | assumption | omega | (intro hk; exact hk (by assumption)))])) dX8_exchange_55
    · refine z_bipush hx hb dX8_exchange_20 (by decide) ?_
      exact m_iret hx hb hr hlocks (by unfold stExch; rw [if_neg (fun hk => by first | omega | exact hk.1 (by assumption) | exact hk.2.1 (by assumption) | exact hk.2.2.1 (by assumption) | exact hk.2.2.2.1 (by assumption) | exact hk.2.2.2 (by assumption) | exact hk.2.2.2.2 (by assumption))]; exact hW) hS hz (by unfold spExch; repeat (first | rw [if_pos (by first | assumption | omega)] | rw [if_neg (by first | assumption | omega | (intro hk; exact hk (by assumption)))])) dX8_exchange_22
set_option maxHeartbeats 4000000 in
set_option maxRecDepth 100000 in
theorem c8_aboutOf (l : Launch) (D : va_G) (cI cZ : ClassId) (ad : Nat → Nat) (τ : Tau) (hI : Rng τ) (q : Nat) (zq : Int) (hzq : zq = (q : Int)) (k : Int) (h_k : I32 k) (h0 : q < 96) : Met l yX8_aboutOf wsX8_aboutOf { frames := 0, cells := 0, slots := 0, locals := 0 } (mPc D cI cZ ad τ [.ref (ad 0), .int (iI zq), .int (iI (k))]) (rS (abO τ q k)) 0 0 NoA := by
  subst hzq
  refine m_start (by decide) rfl (Nat.le_of_ble_eq_true rfl) ?_
  intro p e s m below meth c hx hb hr hlocks hml hts hown hW hK ls hl
  have hin8 : ∀ w ∈ wsX80, w ∈ wsX8_aboutOf := by decide +kernel
  have hl : lv_has ls 3 [(0, .ref (ad 0)), (1, .int (iI ((q : Int)))), (2, .int (iI (k)))] := hl
  refine lv_iload_n hx hb dX8_aboutOf_0 rfl (lv_at hl 2 rfl) ?_
  rcases (show k = 0 ∨ k = 1 ∨ k = 2 ∨ k = 3 ∨ k = 4 ∨ (k < 0 ∨ 4 < k) by omega) with k1 | k1 | k1 | k1 | k1 | k1
  · refine z_tabIn (tgt := 36) (off := 35) (k := 0) hx hb (by omega) dX8_aboutOf_1 (by omega) (by omega) (by decide +kernel) (by decide) ?_
    refine lv_aload_n hx hb dX8_aboutOf_36 rfl (lv_at hl 0 rfl) ?_
    refine m_get hx hb hts hin8 hown hK hW 20 (by decide) (hts _ (by decide +kernel)) (v := .ref (ad 20)) rfl dX8_aboutOf_37 ?_
    refine lv_iload_n hx hb dX8_aboutOf_40 rfl (lv_at hl 1 rfl) ?_
    refine m_ald (d := 20) (j := q) hx hb hK hW rfl (by omega) (show q < 96 from by omega) dX8_aboutOf_41 ?_
    have r2 : (0 : Int) ≤ τ 20 q ∧ τ 20 q ≤ 3 := hI 20 q
    exact s_iret hx hb hr hlocks (by unfold abO; repeat (first | rw [if_pos (by omega)] | rw [if_neg (by omega)]); first | done | omega) dX8_aboutOf_42
  · refine z_tabIn (tgt := 43) (off := 42) (k := 1) hx hb (by omega) dX8_aboutOf_1 (by omega) (by omega) (by decide +kernel) (by decide) ?_
    refine lv_aload_n hx hb dX8_aboutOf_43 rfl (lv_at hl 0 rfl) ?_
    refine m_get hx hb hts hin8 hown hK hW 21 (by decide) (hts _ (by decide +kernel)) (v := .ref (ad 21)) rfl dX8_aboutOf_44 ?_
    refine lv_iload_n hx hb dX8_aboutOf_47 rfl (lv_at hl 1 rfl) ?_
    refine m_ald (d := 21) (j := q) hx hb hK hW rfl (by omega) (show q < 96 from by omega) dX8_aboutOf_48 ?_
    have r3 : (0 : Int) ≤ τ 21 q ∧ τ 21 q ≤ 100000 := hI 21 q
    exact s_iret hx hb hr hlocks (by unfold abO; repeat (first | rw [if_pos (by omega)] | rw [if_neg (by omega)]); first | done | omega) dX8_aboutOf_49
  · refine z_tabIn (tgt := 50) (off := 49) (k := 2) hx hb (by omega) dX8_aboutOf_1 (by omega) (by omega) (by decide +kernel) (by decide) ?_
    refine lv_aload_n hx hb dX8_aboutOf_50 rfl (lv_at hl 0 rfl) ?_
    refine m_get hx hb hts hin8 hown hK hW 22 (by decide) (hts _ (by decide +kernel)) (v := .ref (ad 22)) rfl dX8_aboutOf_51 ?_
    refine lv_iload_n hx hb dX8_aboutOf_54 rfl (lv_at hl 1 rfl) ?_
    refine m_ald (d := 22) (j := q) hx hb hK hW rfl (by omega) (show q < 96 from by omega) dX8_aboutOf_55 ?_
    have r4 : (0 : Int) ≤ τ 22 q ∧ τ 22 q ≤ 10000 := hI 22 q
    exact s_iret hx hb hr hlocks (by unfold abO; repeat (first | rw [if_pos (by omega)] | rw [if_neg (by omega)]); first | done | omega) dX8_aboutOf_56
  · refine z_tabIn (tgt := 57) (off := 56) (k := 3) hx hb (by omega) dX8_aboutOf_1 (by omega) (by omega) (by decide +kernel) (by decide) ?_
    refine lv_aload_n hx hb dX8_aboutOf_57 rfl (lv_at hl 0 rfl) ?_
    refine m_get hx hb hts hin8 hown hK hW 23 (by decide) (hts _ (by decide +kernel)) (v := .ref (ad 23)) rfl dX8_aboutOf_58 ?_
    refine lv_iload_n hx hb dX8_aboutOf_61 rfl (lv_at hl 1 rfl) ?_
    refine m_zld (d := 23) (j := q) hx hb hK hW rfl (by omega) (show q < 96 from by omega) dX8_aboutOf_62 ?_
    have r5 : (0 : Int) ≤ τ 23 q ∧ τ 23 q ≤ 1 := hI 23 q
    refine z_if_eq (tgt := 70) hx hb (by omega) dX8_aboutOf_63 (by decide) (fun c6 => ?_) (fun c6 => ?_)
    · refine z_iconst hx hb dX8_aboutOf_70 ?_
      exact s_iret hx hb hr hlocks (by unfold abO; repeat (first | rw [if_pos (by omega)] | rw [if_neg (by omega)]); first | done | omega) dX8_aboutOf_71
    · refine z_iconst hx hb dX8_aboutOf_66 ?_
      refine lv_goto (tgt := 71) hx hb dX8_aboutOf_67 (by decide) ?_
      exact s_iret hx hb hr hlocks (by unfold abO; repeat (first | rw [if_pos (by omega)] | rw [if_neg (by omega)]); first | done | omega) dX8_aboutOf_71
  · refine z_tabIn (tgt := 72) (off := 71) (k := 4) hx hb (by omega) dX8_aboutOf_1 (by omega) (by omega) (by decide +kernel) (by decide) ?_
    refine lv_aload_n hx hb dX8_aboutOf_72 rfl (lv_at hl 0 rfl) ?_
    refine m_get hx hb hts hin8 hown hK hW 23 (by decide) (hts _ (by decide +kernel)) (v := .ref (ad 23)) rfl dX8_aboutOf_73 ?_
    refine lv_iload_n hx hb dX8_aboutOf_76 rfl (lv_at hl 1 rfl) ?_
    refine m_zld (d := 23) (j := q) hx hb hK hW rfl (by omega) (show q < 96 from by omega) dX8_aboutOf_77 ?_
    have r7 : (0 : Int) ≤ τ 23 q ∧ τ 23 q ≤ 1 := hI 23 q
    refine z_if_eq (tgt := 90) hx hb (by omega) dX8_aboutOf_78 (by decide) (fun c8 => ?_) (fun c8 => ?_)
    · refine z_iconst hx hb dX8_aboutOf_90 ?_
      exact s_iret hx hb hr hlocks (by unfold abO; repeat (first | rw [if_pos (by omega)] | rw [if_neg (by omega)]); first | done | omega) dX8_aboutOf_91
    · refine lv_aload_n hx hb dX8_aboutOf_81 rfl (lv_at hl 0 rfl) ?_
      refine m_get hx hb hts hin8 hown hK hW 24 (by decide) (hts _ (by decide +kernel)) (v := .ref (ad 24)) rfl dX8_aboutOf_82 ?_
      refine lv_iload_n hx hb dX8_aboutOf_85 rfl (lv_at hl 1 rfl) ?_
      refine m_ald (d := 24) (j := q) hx hb hK hW rfl (by omega) (show q < 96 from by omega) dX8_aboutOf_86 ?_
      have r9 : (-1000 : Int) ≤ τ 24 q ∧ τ 24 q ≤ 100000 := hI 24 q
      refine lv_goto (tgt := 91) hx hb dX8_aboutOf_87 (by decide) ?_
      exact s_iret hx hb hr hlocks (by unfold abO; repeat (first | rw [if_pos (by omega)] | rw [if_neg (by omega)]); first | done | omega) dX8_aboutOf_91
  · refine z_tabOut (tgt := 92) hx hb (by omega) dX8_aboutOf_1 k1 (by decide) ?_
    refine z_bipush hx hb dX8_aboutOf_92 (by decide) ?_
    exact s_iret hx hb hr hlocks (by unfold abO; repeat (first | rw [if_pos (by omega)] | rw [if_neg (by omega)]); first | done | omega) dX8_aboutOf_94
set_option maxHeartbeats 4000000 in
set_option maxRecDepth 100000 in
theorem c8_about (l : Launch) (D : va_G) (cI cZ : ClassId) (ad : Nat → Nat) (τ : Tau) (hI : Rng τ) (a : Int) (h_a : I32 a) (b : Int) (h_b : I32 b) (k : Int) (h_k : I32 k)  : Met l yX8_about wsX8_about { frames := 3, cells := 0, slots := 0, locals := 68 } (mPc D cI cZ ad τ [.ref (ad 0), .int (iI (a)), .int (iI (b)), .int (iI (k))]) (rS (spAbout τ a b k)) 0 0 NoA := by
  refine m_start (by decide) rfl (Nat.le_of_ble_eq_true rfl) ?_
  intro p e s m below meth c hx hb hr hlocks hml hts hown hW hK ls hl
  have hin8 : ∀ w ∈ wsX80, w ∈ wsX8_about := by decide +kernel
  have hl : lv_has ls 4 [(0, .ref (ad 0)), (1, .int (iI (a))), (2, .int (iI (b))), (3, .int (iI (k)))] := hl
  refine lv_aload_n hx hb dX8_about_0 rfl (lv_at hl 0 rfl) ?_
  refine lv_iload_n hx hb dX8_about_1 rfl (lv_at hl 1 rfl) ?_
  refine lv_iload_n hx hb dX8_about_2 rfl (lv_at hl 2 rfl) ?_
  refine m_call (n := 2) (As := [.int (iI (a)), .int (iI (b))]) (rest := []) hx hb hml hts hown hK hW (c8_isPlace l D cI cZ ad τ hI a (by omega) b (by omega)) gX8_about_X8_isPlace rfl rfl rfl (by decide +kernel) ⟨by decide, by decide⟩ rfl hl.1 rfl (Nat.le_of_ble_eq_true rfl) ⟨Nat.zero_le _, Nat.zero_le _⟩ dX8_about_3 ?_
  have r1 := (show (0 : Int) ≤ τ 18 0 ∧ τ 18 0 ≤ 6 from hI 18 0)
  have r2 := (show (0 : Int) ≤ τ 19 a.toNat ∧ τ 19 a.toNat ≤ 16 from hI 19 a.toNat)
  refine z_if_eqB (tgt := 23) hx hb dX8_about_6 (by decide) (fun c3 => ?_) (fun c3 => ?_)
  · refine z_bipush hx hb dX8_about_23 (by decide) ?_
    exact s_iret hx hb hr hlocks (by unfold spAbout; repeat (first | rw [if_pos (by first | assumption | omega)] | rw [if_neg (by first | assumption | omega | (intro hk; exact hk (by assumption)))])) dX8_about_25
  · refine lv_aload_n hx hb dX8_about_9 rfl (lv_at hl 0 rfl) ?_
    refine z_bipush hx hb dX8_about_10 (by decide) ?_
    refine lv_iload_n hx hb dX8_about_12 rfl (lv_at hl 1 rfl) ?_
    refine z_imul hx hb dX8_about_13 ?_
    refine lv_iload_n hx hb dX8_about_14 rfl (lv_at hl 2 rfl) ?_
    refine z_iadd hx hb dX8_about_15 ?_
    refine lv_iload_n hx hb dX8_about_16 rfl (lv_at hl 3 rfl) ?_
    refine m_call (n := 2) (As := [.int (iI ((16 * a) + b)), .int (iI (k))]) (rest := []) hx hb hml hts hown hK hW (c8_aboutOf l D cI cZ ad τ hI ((16 * a.toNat) + b.toNat) ((16 * a) + b) (by omega) k (by omega) (by omega)) gX8_about_X8_aboutOf rfl rfl rfl (by decide +kernel) ⟨by decide, by decide⟩ rfl hl.1 rfl (Nat.le_of_ble_eq_true rfl) ⟨Nat.zero_le _, Nat.zero_le _⟩ dX8_about_17 ?_
    refine lv_goto (tgt := 25) hx hb dX8_about_20 (by decide) ?_
    exact s_iret hx hb hr hlocks (by unfold spAbout; repeat (first | rw [if_pos (by first | assumption | omega)] | rw [if_neg (by first | assumption | omega | (intro hk; exact hk (by assumption)))])) dX8_about_25
set_option maxHeartbeats 4000000 in
set_option maxRecDepth 100000 in
theorem c8_gradeAt (l : Launch) (D : va_G) (cI cZ : ClassId) (ad : Nat → Nat) (τ : Tau) (hI : Inv τ) (x : Int) (h_x : I32 x)  : Met l yX8_gradeAt wsX8_gradeAt { frames := 4, cells := 0, slots := 0, locals := 89 } (mPc D cI cZ ad τ [.ref (ad 0), .int (iI (x))]) (rS (gaO τ x)) 0 0 NoA := by
  refine m_start (by decide) rfl (Nat.le_of_ble_eq_true rfl) ?_
  intro p e s m below meth c hx hb hr hlocks hml hts hown hW hK ls hl
  have hin8 : ∀ w ∈ wsX80, w ∈ wsX8_gradeAt := by decide +kernel
  have hl : lv_has ls 4 [(0, .ref (ad 0)), (1, .int (iI (x)))] := hl
  obtain ⟨N, hN⟩ : ∃ N : Nat, τ 18 0 = N := ⟨(τ 18 0).toNat, by have : (0 : Int) ≤ τ 18 0 ∧ τ 18 0 ≤ 6 := hI.1 18 0; omega⟩
  have hN2 : (τ 18 0).toNat = N := by omega
  have hN3 : N ≤ 6 := by have : (0 : Int) ≤ τ 18 0 ∧ τ 18 0 ≤ 6 := hI.1 18 0; omega
  refine z_iconst hx hb dX8_gradeAt_0 ?_
  refine lv_istore_n (lv' := [(2, .int (iI (0))), (0, .ref (ad 0)), (1, .int (iI (x)))]) hx hb dX8_gradeAt_1 rfl hl (by decide) rfl (fun ls hl => ?_)
  have lp2 : ∀ (n2 k : Nat) (x2 : Int), x2 = (k : Int) → k ≤ N → N + 1 ≤ k + n2 → (∀ j, j < k → gaB τ x j = false) → ∀ ls : Array Slot, lv_has ls 4 [(2, .int (iI (x2))), (0, .ref (ad 0)), (1, .int (iI (x)))] → W p l e { frames := 4, cells := 0, slots := 0, locals := 89 } s m [.ref (ad 0), .int (iI (x))].toArray below meth c s.heap [] 0 0 (MQ below (rS (gaO τ x)) [.ref (ad 0), .int (iI (x))].toArray s 0 0 (NoA)) (F0 m 2 ls []) := by
    intro n2
    induction n2 with
    | zero => intro k x2 ex2 hk1 hk2; exact absurd hk2 (by omega)
    | succ n2 ih2 =>
      intro k x2 ex2 hk1 hk2 hn ls hl
      subst ex2
      refine lv_iload_n hx hb dX8_gradeAt_2 rfl (lv_at hl 0 rfl) ?_
      refine lv_aload_n hx hb dX8_gradeAt_3 rfl (lv_at hl 1 rfl) ?_
      refine m_get hx hb hts hin8 hown hK hW 18 (by decide) (hts _ (by decide +kernel)) (v := .int (iI (τ 18 0))) rfl dX8_gradeAt_4 ?_
      have r1 : (0 : Int) ≤ τ 18 0 ∧ τ 18 0 ≤ 6 := hI.1 18 0
      refine z_icmp_ge (tgt := 43) hx hb (by omega) (by omega) dX8_gradeAt_7 (by decide) (fun c2 => ?_) (fun c2 => ?_)
      · refine z_iconst hx hb dX8_gradeAt_43 ?_
        exact s_iret hx hb hr hlocks (by have hf : gaI τ x = -1 := (by unfold gaI; rw [hN2, show N = k by omega]; exact ff_no hn); unfold gaO; rw [if_pos hf]) dX8_gradeAt_44
      · refine lv_aload_n hx hb dX8_gradeAt_10 rfl (lv_at hl 1 rfl) ?_
        refine lv_iload_n hx hb dX8_gradeAt_11 rfl (lv_at hl 0 rfl) ?_
        refine lv_iload_n hx hb dX8_gradeAt_12 rfl (lv_at hl 2 rfl) ?_
        refine m_call (n := 2) (As := [.int (iI ((k : Int))), .int (iI (x))]) (rest := []) hx hb hml hts hown hK hW (c8_placeOf l D cI cZ ad τ hI.1 k (k : Int) (by omega) x (by omega) (by omega)) gX8_gradeAt_X8_placeOf rfl rfl rfl (by decide +kernel) ⟨by decide, by decide⟩ rfl hl.1 rfl (Nat.le_of_ble_eq_true rfl) ⟨Nat.zero_le _, Nat.zero_le _⟩ dX8_gradeAt_13 ?_
        have r3 := pl_r hI.1 k x
        refine lv_istore_n (lv' := [(3, .int (iI (plO τ k x))), (2, .int (iI ((k : Int)))), (0, .ref (ad 0)), (1, .int (iI (x)))]) hx hb dX8_gradeAt_16 rfl hl (by decide) rfl (fun ls hl => ?_)
        refine lv_iload_n hx hb dX8_gradeAt_17 rfl (lv_at hl 0 rfl) ?_
        refine z_iconst hx hb dX8_gradeAt_18 ?_
        refine z_icmp_eq (tgt := 37) hx hb (by omega) (by omega) dX8_gradeAt_19 (by decide) (fun c4 => ?_) (fun c4 => ?_)
        · refine z_iinc (k := 1) (lv' := [(2, .int (iI ((k : Int) + 1))), (3, .int (iI (plO τ k x))), (0, .ref (ad 0)), (1, .int (iI (x)))]) hx hb dX8_gradeAt_37 hl rfl (by decide) rfl (fun ls hl => ?_)
          refine lv_goto (tgt := 2) hx hb dX8_gradeAt_40 (by decide) ?_
          exact ih2 (k + 1) ((k : Int) + 1) (by omega) (by omega) (by omega) (fl_s hn (by unfold gaB; first | (rw [decide_eq_false (by omega)]; rfl) | simp [c4])) ls (lv_sub hl [0, 2, 3] rfl)
        · refine lv_aload_n hx hb dX8_gradeAt_22 rfl (lv_at hl 2 rfl) ?_
          refine lv_iload_n hx hb dX8_gradeAt_23 rfl (lv_at hl 1 rfl) ?_
          refine m_call (n := 1) (As := [.int (iI ((k : Int)))]) (rest := []) hx hb hml hts hown hK hW (c8_isSound l D cI cZ ad τ hI.1 k (k : Int) (by omega) (by omega) (hI.wh _)) gX8_gradeAt_X8_isSound rfl rfl rfl (by decide +kernel) ⟨by decide, by decide⟩ rfl hl.1 rfl (Nat.le_of_ble_eq_true rfl) ⟨Nat.zero_le _, Nat.zero_le _⟩ dX8_gradeAt_24 ?_
          refine z_if_eqB (tgt := 37) hx hb dX8_gradeAt_27 (by decide) (fun c5 => ?_) (fun c5 => ?_)
          · refine z_iinc (k := 1) (lv' := [(2, .int (iI ((k : Int) + 1))), (3, .int (iI (plO τ k x))), (0, .ref (ad 0)), (1, .int (iI (x)))]) hx hb dX8_gradeAt_37 hl rfl (by decide) rfl (fun ls hl => ?_)
            refine lv_goto (tgt := 2) hx hb dX8_gradeAt_40 (by decide) ?_
            exact ih2 (k + 1) ((k : Int) + 1) (by omega) (by omega) (by omega) (fl_s hn (by unfold gaB; first | (rw [decide_eq_false (by omega)]; rfl) | simp [c5])) ls (lv_sub hl [0, 2, 3] rfl)
          · refine z_bipush hx hb dX8_gradeAt_30 (by decide) ?_
            refine lv_iload_n hx hb dX8_gradeAt_32 rfl (lv_at hl 1 rfl) ?_
            refine z_imul hx hb dX8_gradeAt_33 ?_
            refine lv_iload_n hx hb dX8_gradeAt_34 rfl (lv_at hl 0 rfl) ?_
            refine z_iadd hx hb dX8_gradeAt_35 ?_
            exact s_iret hx hb hr hlocks (by have hf : gaI τ x = k := (by unfold gaI; rw [hN2]; exact ff_at hn (by unfold gaB; rw [c5, decide_eq_true c4]; rfl) (by omega)); unfold gaO; rw [hf, if_neg (by omega), Int.toNat_natCast]) dX8_gradeAt_36
  exact lp2 (N + 1) 0 0 (by omega) (by omega) (by omega) fl_0 ls (lv_sub hl [0, 1, 2] rfl)
set_option maxHeartbeats 4000000 in
set_option maxRecDepth 100000 in
theorem c8_grade (l : Launch) (D : va_G) (cI cZ : ClassId) (ad : Nat → Nat) (τ : Tau) (hI : Inv τ) (a : Int) (h_a : I32 a) (u : Int) (h_u : I32 u)  : Met l yX8_grade wsX8_grade { frames := 5, cells := 0, slots := 0, locals := 112 } (mPc D cI cZ ad τ [.ref (ad 0), .int (iI (a)), .int (iI (u))]) (rS (spGrade τ a u)) 0 0 NoA := by
  refine m_start (by decide) rfl (Nat.le_of_ble_eq_true rfl) ?_
  intro p e s m below meth c hx hb hr hlocks hml hts hown hW hK ls hl
  have hin8 : ∀ w ∈ wsX80, w ∈ wsX8_grade := by decide +kernel
  have hl : lv_has ls 4 [(0, .ref (ad 0)), (1, .int (iI (a))), (2, .int (iI (u)))] := hl
  refine lv_aload_n hx hb dX8_grade_0 rfl (lv_at hl 0 rfl) ?_
  refine lv_iload_n hx hb dX8_grade_1 rfl (lv_at hl 1 rfl) ?_
  refine m_call (n := 1) (As := [.int (iI (a))]) (rest := []) hx hb hml hts hown hK hW (c8_isSample l D cI cZ ad τ hI.1 a (by omega)) gX8_grade_X8_isSample rfl rfl rfl (by decide +kernel) ⟨by decide, by decide⟩ rfl hl.1 rfl (Nat.le_of_ble_eq_true rfl) ⟨Nat.zero_le _, Nat.zero_le _⟩ dX8_grade_2 ?_
  have r1 := (show (0 : Int) ≤ τ 12 0 ∧ τ 12 0 ≤ 30 from hI.1 12 0)
  refine z_if_neB (tgt := 11) hx hb dX8_grade_5 (by decide) (fun c2 => ?_) (fun c2 => ?_)
  · refine lv_iload_n hx hb dX8_grade_11 rfl (lv_at hl 2 rfl) ?_
    refine z_i2l hx hb (by omega) dX8_grade_12 ?_
    refine z_lconst (n := 0) hx hb (by decide) dX8_grade_13 ?_
    refine z_lconst (n := 1) hx hb (by decide) dX8_grade_14 ?_
    refine s_call (n := 3) (As := [.long (lL (u)), .long (lL (0)), .long (lL (1))]) (rest := []) hx hb hml hts hown (c8_in l u (by omega) 0 (by omega) 1 (by omega)) gX8_grade_X8_in rfl rfl rfl (by decide +kernel) ⟨by decide, by decide⟩ rfl hl.1 rfl (Nat.le_of_ble_eq_true rfl) ⟨Nat.zero_le _, Nat.zero_le _⟩ dX8_grade_15 ?_
    refine z_if_neB (tgt := 24) hx hb dX8_grade_18 (by decide) (fun c3 => ?_) (fun c3 => ?_)
    · refine lv_aload_n hx hb dX8_grade_24 rfl (lv_at hl 0 rfl) ?_
      refine lv_iload_n hx hb dX8_grade_25 rfl (lv_at hl 1 rfl) ?_
      refine m_call (n := 1) (As := [.int (iI (a))]) (rest := []) hx hb hml hts hown hK hW (c8_gradeAt l D cI cZ ad τ hI a (by omega)) gX8_grade_X8_gradeAt rfl rfl rfl (by decide +kernel) ⟨by decide, by decide⟩ rfl hl.1 rfl (Nat.le_of_ble_eq_true rfl) ⟨Nat.zero_le _, Nat.zero_le _⟩ dX8_grade_26 ?_
      have r4 := ga_r hI.1 a
      refine lv_istore_n (lv' := [(3, .int (iI (gaO τ a))), (0, .ref (ad 0)), (1, .int (iI (a))), (2, .int (iI (u)))]) hx hb dX8_grade_29 rfl hl (by decide) rfl (fun ls hl => ?_)
      refine lv_iload_n hx hb dX8_grade_30 rfl (lv_at hl 0 rfl) ?_
      refine z_iconst hx hb dX8_grade_31 ?_
      refine z_icmp_ne (tgt := 39) hx hb (by omega) (by omega) dX8_grade_32 (by decide) (fun c5 => ?_) (fun c5 => ?_)
      · refine lv_iload_n hx hb dX8_grade_39 rfl (lv_at hl 3 rfl) ?_
        refine z_if_ne (tgt := 51) hx hb (by omega) dX8_grade_40 (by decide) (fun c6 => ?_) (fun c6 => ?_)
        · refine lv_aload_n hx hb dX8_grade_51 rfl (lv_at hl 1 rfl) ?_
          refine lv_iload_n hx hb dX8_grade_52 rfl (lv_at hl 0 rfl) ?_
          refine m_call (n := 1) (As := [.int (iI (gaO τ a))]) (rest := []) hx hb hml hts hown hK hW (c8_upper l D cI cZ ad τ hI.1 ((gaO τ a).toNat) (gaO τ a) (by omega) (by omega)) gX8_grade_X8_upper rfl rfl rfl (by decide +kernel) ⟨by decide, by decide⟩ rfl hl.1 rfl (Nat.le_of_ble_eq_true rfl) ⟨Nat.zero_le _, Nat.zero_le _⟩ dX8_grade_53 ?_
          have r7 := up_r hI.1 ((gaO τ a).toNat)
          exact s_iret hx hb hr hlocks (by unfold spGrade; repeat (first | rw [if_pos (by first | assumption | omega)] | rw [if_neg (by first | assumption | omega | (intro hk; exact hk (by assumption)))])) dX8_grade_56
        · refine lv_aload_n hx hb dX8_grade_43 rfl (lv_at hl 1 rfl) ?_
          refine lv_iload_n hx hb dX8_grade_44 rfl (lv_at hl 0 rfl) ?_
          refine m_call (n := 1) (As := [.int (iI (gaO τ a))]) (rest := []) hx hb hml hts hown hK hW (c8_lower l D cI cZ ad τ hI.1 ((gaO τ a).toNat) (gaO τ a) (by omega) (by omega)) gX8_grade_X8_lower rfl rfl rfl (by decide +kernel) ⟨by decide, by decide⟩ rfl hl.1 rfl (Nat.le_of_ble_eq_true rfl) ⟨Nat.zero_le _, Nat.zero_le _⟩ dX8_grade_45 ?_
          have r8 := lo_r hI.1 ((gaO τ a).toNat)
          refine lv_goto (tgt := 56) hx hb dX8_grade_48 (by decide) ?_
          exact s_iret hx hb hr hlocks (by unfold spGrade; repeat (first | rw [if_pos (by first | assumption | omega)] | rw [if_neg (by first | assumption | omega | (intro hk; exact hk (by assumption)))])) dX8_grade_56
      · refine z_iconst hx hb dX8_grade_35 ?_
        refine lv_goto (tgt := 56) hx hb dX8_grade_36 (by decide) ?_
        exact s_iret hx hb hr hlocks (by unfold spGrade; repeat (first | rw [if_pos (by first | assumption | omega)] | rw [if_neg (by first | assumption | omega | (intro hk; exact hk (by assumption)))])) dX8_grade_56
    · refine z_bipush hx hb dX8_grade_21 (by decide) ?_
      exact s_iret hx hb hr hlocks (by unfold spGrade; repeat (first | rw [if_pos (by first | assumption | omega)] | rw [if_neg (by first | assumption | omega | (intro hk; exact hk (by assumption)))])) dX8_grade_23
  · refine z_bipush hx hb dX8_grade_8 (by decide) ?_
    exact s_iret hx hb hr hlocks (by unfold spGrade; repeat (first | rw [if_pos (by first | assumption | omega)] | rw [if_neg (by first | assumption | omega | (intro hk; exact hk (by assumption)))])) dX8_grade_10
set_option maxHeartbeats 4000000 in
set_option maxRecDepth 100000 in
theorem c8_count (l : Launch) (D : va_G) (cI cZ : ClassId) (ad : Nat → Nat) (τ : Tau) (hI : Inv τ) (a : Int) (h_a : I32 a)  : Met l yX8_count wsX8_count { frames := 4, cells := 0, slots := 0, locals := 89 } (mPc D cI cZ ad τ [.ref (ad 0), .int (iI (a))]) (rS (spCount τ a)) 0 0 NoA := by
  refine m_start (by decide) rfl (Nat.le_of_ble_eq_true rfl) ?_
  intro p e s m below meth c hx hb hr hlocks hml hts hown hW hK ls hl
  have hin8 : ∀ w ∈ wsX80, w ∈ wsX8_count := by decide +kernel
  have hl : lv_has ls 4 [(0, .ref (ad 0)), (1, .int (iI (a)))] := hl
  refine lv_iload_n hx hb dX8_count_0 rfl (lv_at hl 1 rfl) ?_
  rcases (show a = 0 ∨ a = 1 ∨ a = 2 ∨ a = 3 ∨ a = 4 ∨ (a < 0 ∨ 4 < a) by omega) with k1 | k1 | k1 | k1 | k1 | k1
  · refine z_tabIn (tgt := 36) (off := 35) (k := 0) hx hb (by omega) dX8_count_1 (by omega) (by omega) (by decide +kernel) (by decide) ?_
    refine lv_aload_n hx hb dX8_count_36 rfl (lv_at hl 0 rfl) ?_
    refine m_get hx hb hts hin8 hown hK hW 0 (by decide) (hts _ (by decide +kernel)) (v := .int (iI (τ 0 0))) rfl dX8_count_37 ?_
    have r2 : (0 : Int) ≤ τ 0 0 ∧ τ 0 0 ≤ 4 := hI.1 0 0
    exact s_iret hx hb hr hlocks (by unfold spCount; repeat (first | rw [if_pos (by omega)] | rw [if_neg (by omega)])) dX8_count_40
  · refine z_tabIn (tgt := 41) (off := 40) (k := 1) hx hb (by omega) dX8_count_1 (by omega) (by omega) (by decide +kernel) (by decide) ?_
    refine lv_aload_n hx hb dX8_count_41 rfl (lv_at hl 0 rfl) ?_
    refine m_get hx hb hts hin8 hown hK hW 12 (by decide) (hts _ (by decide +kernel)) (v := .int (iI (τ 12 0))) rfl dX8_count_42 ?_
    have r3 : (0 : Int) ≤ τ 12 0 ∧ τ 12 0 ≤ 30 := hI.1 12 0
    exact s_iret hx hb hr hlocks (by unfold spCount; repeat (first | rw [if_pos (by omega)] | rw [if_neg (by omega)])) dX8_count_45
  · refine z_tabIn (tgt := 46) (off := 45) (k := 2) hx hb (by omega) dX8_count_1 (by omega) (by omega) (by decide +kernel) (by decide) ?_
    refine lv_aload_n hx hb dX8_count_46 rfl (lv_at hl 0 rfl) ?_
    refine m_get hx hb hts hin8 hown hK hW 18 (by decide) (hts _ (by decide +kernel)) (v := .int (iI (τ 18 0))) rfl dX8_count_47 ?_
    have r4 : (0 : Int) ≤ τ 18 0 ∧ τ 18 0 ≤ 6 := hI.1 18 0
    exact s_iret hx hb hr hlocks (by unfold spCount; repeat (first | rw [if_pos (by omega)] | rw [if_neg (by omega)])) dX8_count_50
  · refine z_tabIn (tgt := 51) (off := 50) (k := 3) hx hb (by omega) dX8_count_1 (by omega) (by omega) (by decide +kernel) (by decide) ?_
    refine lv_aload_n hx hb dX8_count_51 rfl (lv_at hl 0 rfl) ?_
    refine m_get hx hb hts hin8 hown hK hW 17 (by decide) (hts _ (by decide +kernel)) (v := .int (iI (τ 17 0))) rfl dX8_count_52 ?_
    have r5 : (0 : Int) ≤ τ 17 0 ∧ τ 17 0 ≤ 120 := hI.1 17 0
    exact s_iret hx hb hr hlocks (by unfold spCount; repeat (first | rw [if_pos (by omega)] | rw [if_neg (by omega)])) dX8_count_55
  · refine z_tabIn (tgt := 56) (off := 55) (k := 4) hx hb (by omega) dX8_count_1 (by omega) (by omega) (by decide +kernel) (by decide) ?_
    obtain ⟨N, hN⟩ : ∃ N : Nat, τ 18 0 = N := ⟨(τ 18 0).toNat, by have : (0 : Int) ≤ τ 18 0 ∧ τ 18 0 ≤ 6 := hI.1 18 0; omega⟩
    have hN2 : (τ 18 0).toNat = N := by omega
    have hN3 : N ≤ 6 := by have : (0 : Int) ≤ τ 18 0 ∧ τ 18 0 ≤ 6 := hI.1 18 0; omega
    refine z_iconst hx hb dX8_count_56 ?_
    refine lv_istore_n (lv' := [(2, .int (iI (0))), (0, .ref (ad 0)), (1, .int (iI (a)))]) hx hb dX8_count_57 rfl hl (by decide) rfl (fun ls hl => ?_)
    refine z_iconst hx hb dX8_count_58 ?_
    refine lv_istore_n (lv' := [(3, .int (iI (0))), (2, .int (iI (0))), (0, .ref (ad 0)), (1, .int (iI (a)))]) hx hb dX8_count_59 rfl hl (by decide) rfl (fun ls hl => ?_)
    have lp60 : ∀ (n60 k : Nat) (x2 x3 : Int), x2 = snK τ k → x3 = (k : Int) → k ≤ N → N + 1 ≤ k + n60 → ∀ ls : Array Slot, lv_has ls 4 [(2, .int (iI (x2))), (3, .int (iI (x3))), (0, .ref (ad 0)), (1, .int (iI (a)))] → W p l e { frames := 4, cells := 0, slots := 0, locals := 89 } s m [.ref (ad 0), .int (iI (a))].toArray below meth c s.heap [] 0 0 (MQ below (rS (spCount τ a)) [.ref (ad 0), .int (iI (a))].toArray s 0 0 (NoA)) (F0 m 60 ls []) := by
      intro n60
      induction n60 with
      | zero => intro k x2 x3 ex2 ex3 hk1 hk2; exact absurd hk2 (by omega)
      | succ n60 ih60 =>
        intro k x2 x3 ex2 ex3 hk1 hk2  ls hl
        subst ex2
        subst ex3
        refine lv_iload_n hx hb dX8_count_60 rfl (lv_at hl 1 rfl) ?_
        refine lv_aload_n hx hb dX8_count_61 rfl (lv_at hl 2 rfl) ?_
        refine m_get hx hb hts hin8 hown hK hW 18 (by decide) (hts _ (by decide +kernel)) (v := .int (iI (τ 18 0))) rfl dX8_count_62 ?_
        have r6 : (0 : Int) ≤ τ 18 0 ∧ τ 18 0 ≤ 6 := hI.1 18 0
        refine z_icmp_ge (tgt := 90) hx hb (by omega) (by omega) dX8_count_65 (by decide) (fun c7 => ?_) (fun c7 => ?_)
        · refine lv_iload_n hx hb dX8_count_90 rfl (lv_at hl 0 rfl) ?_
          exact s_iret hx hb hr hlocks (by unfold spCount; rw [if_neg (by omega), if_neg (by omega), if_neg (by omega), if_neg (by omega), if_pos (by omega), hN2, show N = k by omega]) dX8_count_91
        · refine lv_iload_n hx hb dX8_count_68 rfl (lv_at hl 0 rfl) ?_
          have jn82 : ∀ xj : Int, xj = bI (snB τ k = true) → ∀ ls : Array Slot, lv_has ls 4 [(2, .int (iI (snK τ k))), (3, .int (iI ((k : Int)))), (0, .ref (ad 0)), (1, .int (iI (a)))] → W p l e { frames := 4, cells := 0, slots := 0, locals := 89 } s m [.ref (ad 0), .int (iI (a))].toArray below meth c s.heap [] 0 0 (MQ below (rS (spCount τ a)) [.ref (ad 0), .int (iI (a))].toArray s 0 0 (NoA)) (F0 m 82 ls (.int (iI xj) :: .int (iI (snK τ k)) :: [])) := by
            intro xj ej ls hl
            subst ej
            refine z_iadd hx hb dX8_count_82 ?_
            refine lv_istore_n (lv' := [(2, .int (iI ((snK τ k) + (bI (snB τ k = true))))), (3, .int (iI ((k : Int)))), (0, .ref (ad 0)), (1, .int (iI (a)))]) hx hb dX8_count_83 rfl hl (by decide) rfl (fun ls hl => ?_)
            refine z_iinc (k := 1) (lv' := [(3, .int (iI ((k : Int) + 1))), (2, .int (iI ((snK τ k) + (bI (snB τ k = true))))), (0, .ref (ad 0)), (1, .int (iI (a)))]) hx hb dX8_count_84 hl rfl (by decide) rfl (fun ls hl => ?_)
            refine lv_goto (tgt := 60) hx hb dX8_count_87 (by decide) ?_
            exact ih60 (k + 1) ((snK τ k) + (bI (snB τ k = true))) ((k : Int) + 1) rfl (by omega) (by omega) (by omega)  ls (lv_sub hl [1, 0, 2, 3] rfl)
          refine lv_aload_n hx hb dX8_count_69 rfl (lv_at hl 2 rfl) ?_
          refine lv_iload_n hx hb dX8_count_70 rfl (lv_at hl 1 rfl) ?_
          refine m_call (n := 1) (As := [.int (iI ((k : Int)))]) (rest := [.int (iI (snK τ k))]) hx hb hml hts hown hK hW (c8_isSound l D cI cZ ad τ hI.1 k (k : Int) (by omega) (by omega) (hI.wh _)) gX8_count_X8_isSound rfl rfl rfl (by decide +kernel) ⟨by decide, by decide⟩ rfl hl.1 rfl (Nat.le_of_ble_eq_true rfl) ⟨Nat.zero_le _, Nat.zero_le _⟩ dX8_count_71 ?_
          refine z_if_eqB (tgt := 81) hx hb dX8_count_74 (by decide) (fun c8 => ?_) (fun c8 => ?_)
          · refine z_iconst hx hb dX8_count_81 ?_
            exact jn82 0 (bI_f c8).symm ls (lv_sub hl [0, 1, 2, 3] rfl)
          · refine z_iconst hx hb dX8_count_77 ?_
            refine lv_goto (tgt := 82) hx hb dX8_count_78 (by decide) ?_
            exact jn82 1 (bI_t c8).symm ls (lv_sub hl [0, 1, 2, 3] rfl)
    exact lp60 (N + 1) 0 0 0 rfl (by omega) (by omega) (by omega)  ls (lv_sub hl [1, 0, 2, 3] rfl)
  · refine z_tabOut (tgt := 92) hx hb (by omega) dX8_count_1 k1 (by decide) ?_
    refine z_bipush hx hb dX8_count_92 (by decide) ?_
    exact s_iret hx hb hr hlocks (by unfold spCount; repeat (first | rw [if_pos (by omega)] | rw [if_neg (by omega)])) dX8_count_94
