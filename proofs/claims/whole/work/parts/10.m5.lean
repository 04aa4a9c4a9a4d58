/-! the mend -/
def mxK (L f : Nat → Int) (d : Int) (s : Nat) : Nat → Int
  | 0 => 0
  | c + 1 => max (mxK L f d s c) (if d < f (s + c) then L (s + c) else 0)
theorem mx_0 (L f : Nat → Int) (d : Int) (s : Nat) : ∀ c : Nat, 0 ≤ mxK L f d s c
  | 0 => Int.le_refl 0
  | c + 1 => by
    have := mx_0 L f d s c
    show 0 ≤ max _ _
    omega
theorem mx_u {L f : Nat → Int} {d : Int} {s : Nat} {B : Int} (hB : 0 ≤ B) : ∀ {c : Nat}, (∀ j, j < c → L (s + j) ≤ B) → mxK L f d s c ≤ B
  | 0, _ => hB
  | c + 1, h => by
    have h1 := mx_u (f := f) (d := d) hB (fun j hj => h j (Nat.lt_succ_of_lt hj))
    have h2 := h c (Nat.lt_succ_self c)
    show max (mxK L f d s c) (if d < f (s + c) then L (s + c) else 0) ≤ B
    split <;> omega
theorem mx_cong {L L2 f : Nat → Int} {d : Int} {s : Nat} : ∀ {c : Nat}, (∀ j, j < c → L (s + j) = L2 (s + j)) → mxK L f d s c = mxK L2 f d s c
  | 0, _ => rfl
  | c + 1, h => by
    show max (mxK L f d s c) (if d < f (s + c) then L (s + c) else 0) = max (mxK L2 f d s c) (if d < f (s + c) then L2 (s + c) else 0)
    rw [mx_cong (fun j hj => h j (Nat.lt_succ_of_lt hj)), h c (Nat.lt_succ_self c)]
/-- how many can rise from place k on, by what stands behind it -/
def vlS (L f : Nat → Int) (e : Int) (k s n : Nat) : Int := if e < f k then 0 else 1 + mxK L f (f k) s n
def lgS (f : Nat → Int) (e : Int) (M : Nat) : Nat → Nat → Int
  | 0 => fun _ => 0
  | r + 1 => fu (lgS f e M r) (M - (r + 1)) (vlS (lgS f e M r) f e (M - (r + 1)) (M - r) r)
theorem vl_r {L f : Nat → Int} {e : Int} {k s n : Nat} {B : Int} (hB : 0 ≤ B) (h : ∀ j, j < n → L (s + j) ≤ B) : 0 ≤ vlS L f e k s n ∧ vlS L f e k s n ≤ B + 1 := by
  have h1 := mx_0 L f (f k) s n
  have h2 := mx_u (f := f) (d := f k) hB h
  unfold vlS
  split <;> omega
theorem lg_r (f : Nat → Int) (e : Int) (M : Nat) : ∀ r j : Nat, 0 ≤ lgS f e M r j ∧ lgS f e M r j ≤ r
  | 0, j => by
    show (0 : Int) ≤ 0 ∧ (0 : Int) ≤ ((0 : Nat) : Int)
    omega
  | r + 1, j => by
    show 0 ≤ fu (lgS f e M r) (M - (r + 1)) (vlS (lgS f e M r) f e (M - (r + 1)) (M - r) r) j ∧ fu (lgS f e M r) (M - (r + 1)) (vlS (lgS f e M r) f e (M - (r + 1)) (M - r) r) j ≤ ((r + 1 : Nat) : Int)
    by_cases hj : j = M - (r + 1)
    · subst hj
      rw [fu_s]
      have := vl_r (L := lgS f e M r) (f := f) (e := e) (k := M - (r + 1)) (s := M - r) (n := r) (B := r) (by omega) (fun j _ => (lg_r f e M r (M - r + j)).2)
      omega
    · rw [fu_n hj]
      have := lg_r f e M r j
      omega
def msS (f : Nat → Int) (e : Int) (M : Nat) : Nat → Int
  | 0 => 0
  | r + 1 => max (msS f e M r) (vlS (lgS f e M r) f e (M - (r + 1)) (M - r) r)
theorem ms_r (f : Nat → Int) (e : Int) (M : Nat) : ∀ r : Nat, 0 ≤ msS f e M r ∧ msS f e M r ≤ r
  | 0 => by
    show (0 : Int) ≤ 0 ∧ (0 : Int) ≤ ((0 : Nat) : Int)
    omega
  | r + 1 => by
    have h1 := ms_r f e M r
    have := vl_r (L := lgS f e M r) (f := f) (e := e) (k := M - (r + 1)) (s := M - r) (n := r) (B := r) (by omega) (fun j _ => (lg_r f e M r (M - r + j)).2)
    show 0 ≤ max _ _ ∧ max _ _ ≤ ((r + 1 : Nat) : Int)
    omega
abbrev chP (L f : Nat → Int) (q : Int × Int) (k : Nat) : Prop := 0 < q.1 ∧ L k = q.1 ∧ q.2 < f k
def chS (L f : Nat → Int) (n0 : Int) : Nat → Int × Int
  | 0 => (n0, -1)
  | k + 1 => if chP L f (chS L f n0 k) k then ((chS L f n0 k).1 - 1, f k) else chS L f n0 k
theorem ch_t {L f : Nat → Int} {n0 : Int} {k : Nat} (h : chP L f (chS L f n0 k) k) : chS L f n0 (k + 1) = ((chS L f n0 k).1 - 1, f k) := if_pos h
theorem ch_f {L f : Nat → Int} {n0 : Int} {k : Nat} (h : ¬ chP L f (chS L f n0 k) k) : chS L f n0 (k + 1) = chS L f n0 k := if_neg h
theorem ch_n {L f : Nat → Int} {n0 : Int} {k : Nat} : (chS L f n0 k).1 - bI (chP L f (chS L f n0 k) k) = (chS L f n0 (k + 1)).1 := by
  by_cases h : chP L f (chS L f n0 k) k
  · rw [ch_t h, bI_t h]
  · rw [ch_f h, bI_f h, Int.sub_zero]
theorem ch_r {L f : Nat → Int} {n0 : Int} {B : Int} (hn : 0 ≤ n0 ∧ n0 ≤ 20) (hB : -1 ≤ B) (hf : ∀ j, -1 ≤ f j ∧ f j ≤ B) : ∀ k : Nat, (0 ≤ (chS L f n0 k).1 ∧ (chS L f n0 k).1 ≤ 20) ∧ (-1 ≤ (chS L f n0 k).2 ∧ (chS L f n0 k).2 ≤ B)
  | 0 => ⟨hn, by show (-1 : Int) ≤ -1 ∧ (-1 : Int) ≤ B; omega⟩
  | k + 1 => by
    have ih := ch_r (L := L) hn hB hf k
    by_cases h : chP L f (chS L f n0 k) k
    · rw [ch_t h]
      have h1 := h.1
      have h2 := hf k
      show (0 ≤ (chS L f n0 k).1 - 1 ∧ (chS L f n0 k).1 - 1 ≤ 20) ∧ (-1 ≤ f k ∧ f k ≤ B)
      omega
    · rw [ch_f h]
      exact ih
def mkF (τ : Tau) (h : Nat) : Nat → Int := fun k => τ 5 (20 * h + k)
def LG (τ : Tau) (h : Nat) : Nat → Int := lgS (mkF τ h) (enO τ h) (τ 4 h).toNat (τ 4 h).toNat
def meO (τ : Tau) (h : Nat) : Int := msS (mkF τ h) (enO τ h) (τ 4 h).toNat (τ 4 h).toNat
abbrev rtP (τ : Tau) (h k : Nat) : Prop := chP (LG τ h) (mkF τ h) (chS (LG τ h) (mkF τ h) (meO τ h) k) k
def MeP (τ : Tau) (h : Nat) (τ2 : Tau) : Prop := (∀ c, c ≠ 6 → c ≠ 7 → τ2 c = τ c) ∧ Rng τ2 ∧ ∀ j, j < (τ 4 h).toNat → τ2 7 j = bI (rtP τ h j)
/-- all but what the model uses to reckon -/
def Sc (τ τ2 : Tau) : Prop := (∀ c, c ≠ 6 → c ≠ 7 → c ≠ 26 → τ2 c = τ c) ∧ Rng τ2
theorem Sc.rf {τ : Tau} (h : Rng τ) : Sc τ τ := ⟨fun _ _ _ _ => rfl, h⟩
theorem me_r {τ : Tau} (hR : Rng τ) (h : Nat) : 0 ≤ meO τ h ∧ meO τ h ≤ 20 := by
  have h1 := ms_r (mkF τ h) (enO τ h) (τ 4 h).toNat (τ 4 h).toNat
  have h2 : (0 : Int) ≤ τ 4 h ∧ τ 4 h ≤ 20 := hR 4 h
  unfold meO
  omega

set_option maxHeartbeats 4000000 in
set_option maxRecDepth 100000 in
theorem c8_mend (l : Launch) (D : va_G) (cI cZ : ClassId) (ad : Nat → Nat) (τ : Tau) (hI : Rng τ) (h : Nat) (zh : Int) (hzh : zh = (h : Int)) (h0 : h < 4) : Met l yX8_mend wsX8_mend { frames := 1, cells := 0, slots := 0, locals := 23 } (mPc D cI cZ ad τ [.ref (ad 0), .int (iI zh)]) (mX D cI cZ ad (some (.int (iI (meO τ h)))) (MeP τ h)) 0 0 (MA ad) := by
  subst hzh
  refine m_start (by decide) rfl (Nat.le_of_ble_eq_true rfl) ?_
  intro p e s m below meth c hx hb hr hlocks hml hts hown hW hK ls hl
  have hin8 : ∀ w ∈ wsX80, w ∈ wsX8_mend := by decide +kernel
  have hS : va_S (MA ad) s.heap s.heap [] := va_S.rf
  have hz : s.heap.size = s.heap.size := rfl
  have hR : Rng τ := hI
  have hl : lv_has ls 8 [(0, .ref (ad 0)), (1, .int (iI ((h : Int))))] := hl
  obtain ⟨M, hM⟩ : ∃ N : Nat, τ 4 h = N := ⟨(τ 4 h).toNat, by have : (0 : Int) ≤ τ 4 h ∧ τ 4 h ≤ 20 := hI 4 h; omega⟩
  have hM2 : (τ 4 h).toNat = M := by omega
  have hM3 : M ≤ 20 := by have : (0 : Int) ≤ τ 4 h ∧ τ 4 h ≤ 20 := hI 4 h; omega
  have hen := en_r hI h
  have hms := ms_r (mkF τ h) (enO τ h) M
  refine lv_aload_n hx hb dX8_mend_0 rfl (lv_at hl 0 rfl) ?_
  refine lv_iload_n hx hb dX8_mend_1 rfl (lv_at hl 1 rfl) ?_
  refine m_call (n := 1) (As := [.int (iI ((h : Int)))]) (rest := []) hx hb hml hts hown hK hW (c8_endOf l D cI cZ ad τ hI h (h : Int) (by omega) (by omega)) gX8_mend_X8_endOf rfl rfl rfl (by decide +kernel) ⟨by decide, by decide⟩ rfl hl.1 rfl (Nat.le_of_ble_eq_true rfl) ⟨Nat.zero_le _, Nat.zero_le _⟩ dX8_mend_2 ?_
  have r1 := en_r hI h
  refine lv_istore_n (lv' := [(2, .int (iI (enO τ h))), (0, .ref (ad 0)), (1, .int (iI ((h : Int))))]) hx hb dX8_mend_5 rfl hl (by decide) rfl (fun ls hl => ?_)
  refine z_iconst hx hb dX8_mend_6 ?_
  refine lv_istore_n (lv' := [(3, .int (iI (0))), (2, .int (iI (enO τ h))), (0, .ref (ad 0)), (1, .int (iI ((h : Int))))]) hx hb dX8_mend_7 rfl hl (by decide) rfl (fun ls hl => ?_)
  refine lv_aload_n hx hb dX8_mend_8 rfl (lv_at hl 2 rfl) ?_
  refine m_get hx hb hts hin8 hown hK hW 4 (by decide) (hts _ (by decide +kernel)) (v := .ref (ad 4)) rfl dX8_mend_9 ?_
  refine lv_iload_n hx hb dX8_mend_12 rfl (lv_at hl 3 rfl) ?_
  refine m_ald (d := 4) (j := h) hx hb hK hW rfl (by omega) (show h < 4 from by omega) dX8_mend_13 ?_
  have r2 : (0 : Int) ≤ τ 4 h ∧ τ 4 h ≤ 20 := hI 4 h
  refine z_iconst hx hb dX8_mend_14 ?_
  refine z_isub hx hb dX8_mend_15 ?_
  refine lv_istore (lv' := [(4, .int (iI ((τ 4 h) - 1))), (3, .int (iI (0))), (2, .int (iI (enO τ h))), (0, .ref (ad 0)), (1, .int (iI ((h : Int))))]) hx hb dX8_mend_16 hl (by decide) rfl (fun ls hl => ?_)
  have lp18 : ∀ (n18 r : Nat) (x3 x4 : Int) (τc : Tau), x3 = msS (mkF τ h) (enO τ h) M r → x4 = (M : Int) - ((r : Int) + 1) → r ≤ M → M + 1 ≤ r + n18 → (∀ c, c ≠ 6 → τc c = τ c) → (∀ j, M - r ≤ j → j < M → τc 6 j = lgS (mkF τ h) (enO τ h) M r j) → ∀ (H : Heap) (locs : List Loc), MW D cI cZ ad (τc) H → va_S (MA ad) s.heap H locs → H.size = s.heap.size → Rng (τc) → ∀ ls : Array Slot, lv_has ls 8 [(3, .int (iI (x3))), (4, .int (iI (x4))), (2, .int (iI (enO τ h))), (0, .ref (ad 0)), (1, .int (iI ((h : Int))))] → W p l e { frames := 1, cells := 0, slots := 0, locals := 23 } s m [.ref (ad 0), .int (iI ((h : Int)))].toArray below meth c H locs 0 0 (MQ below (mX D cI cZ ad (some (.int (iI (meO τ h)))) (MeP τ h)) [.ref (ad 0), .int (iI ((h : Int)))].toArray s 0 0 (MA ad)) (F0 m 18 ls []) := by
    intro n18
    induction n18 with
    | zero => intro r x3 x4 τc ex3 ex4 hk1 hk2; exact absurd hk2 (by omega)
    | succ n18 ih18 =>
      intro r x3 x4 τc ex3 ex4 hk1 hk2 ho hL H locs hW hS hz hR ls hl
      subst ex3
      subst ex4
      have hmr := hms r
      refine lv_iload hx hb dX8_mend_18 (lv_at hl 1 rfl) ?_
      refine z_if_lt (tgt := 163) hx hb (by omega) dX8_mend_20 (by decide) (fun c3 => ?_) (fun c3 => ?_)
      · have e3 : msS (mkF τ h) (enO τ h) M r = meO τ h := by unfold meO; rw [hM2, show r = M by omega]
        rw [e3] at hl
        have hLG : ∀ j, j < M → τc 6 j = LG τ h j := fun j hj => by unfold LG; rw [hM2, hL j (by omega) hj, show r = M by omega]
        have hme := me_r hI h
        refine lv_iload_n hx hb dX8_mend_163 rfl (lv_at hl 0 rfl) ?_
        refine lv_istore (lv' := [(4, .int (iI (meO τ h))), (3, .int (iI (meO τ h))), (2, .int (iI (enO τ h))), (0, .ref (ad 0)), (1, .int (iI ((h : Int))))]) hx hb dX8_mend_164 hl (by decide) rfl (fun ls hl => ?_)
        refine z_iconst hx hb dX8_mend_166 ?_
        refine lv_istore (lv' := [(5, .int (iI ((-1)))), (4, .int (iI (meO τ h))), (3, .int (iI (meO τ h))), (2, .int (iI (enO τ h))), (0, .ref (ad 0)), (1, .int (iI ((h : Int))))]) hx hb dX8_mend_167 hl (by decide) rfl (fun ls hl => ?_)
        refine z_iconst hx hb dX8_mend_169 ?_
        refine lv_istore (lv' := [(6, .int (iI (0))), (5, .int (iI ((-1)))), (4, .int (iI (meO τ h))), (3, .int (iI (meO τ h))), (2, .int (iI (enO τ h))), (0, .ref (ad 0)), (1, .int (iI ((h : Int))))]) hx hb dX8_mend_170 hl (by decide) rfl (fun ls hl => ?_)
        have lp172 : ∀ (n172 k : Nat) (x4 x5 x6 : Int) (τe : Tau), x4 = (chS (LG τ h) (mkF τ h) (meO τ h) k).1 → x5 = (chS (LG τ h) (mkF τ h) (meO τ h) k).2 → x6 = (k : Int) → k ≤ M → M + 1 ≤ k + n172 → (∀ c, c ≠ 6 → c ≠ 7 → τe c = τ c) → (∀ j, j < M → τe 6 j = LG τ h j) → (∀ j, j < k → τe 7 j = bI (rtP τ h j)) → ∀ (H : Heap) (locs : List Loc), MW D cI cZ ad (τe) H → va_S (MA ad) s.heap H locs → H.size = s.heap.size → Rng (τe) → ∀ ls : Array Slot, lv_has ls 8 [(4, .int (iI (x4))), (5, .int (iI (x5))), (6, .int (iI (x6))), (3, .int (iI (meO τ h))), (2, .int (iI (enO τ h))), (0, .ref (ad 0)), (1, .int (iI ((h : Int))))] → W p l e { frames := 1, cells := 0, slots := 0, locals := 23 } s m [.ref (ad 0), .int (iI ((h : Int)))].toArray below meth c H locs 0 0 (MQ below (mX D cI cZ ad (some (.int (iI (meO τ h)))) (MeP τ h)) [.ref (ad 0), .int (iI ((h : Int)))].toArray s 0 0 (MA ad)) (F0 m 172 ls []) := by
          intro n172
          induction n172 with
          | zero => intro k x4 x5 x6 τe ex4 ex5 ex6 hk1 hk2; exact absurd hk2 (by omega)
          | succ n172 ih172 =>
            intro k x4 x5 x6 τe ex4 ex5 ex6 hk1 hk2 heo heL heR H locs hW hS hz hR ls hl
            subst ex4
            subst ex5
            subst ex6
            have hch := ch_r (L := LG τ h) (f := mkF τ h) (n0 := meO τ h) (B := 100000) (me_r hI h) (by omega) (fun j => by have h5 : (0 : Int) ≤ τ 5 (20 * h + j) ∧ τ 5 (20 * h + j) ≤ 100000 := hI 5 (20 * h + j); show -1 ≤ τ 5 _ ∧ τ 5 _ ≤ 100000; omega) k
            refine lv_iload hx hb dX8_mend_172 (lv_at hl 2 rfl) ?_
            refine lv_aload_n hx hb dX8_mend_174 rfl (lv_at hl 5 rfl) ?_
            refine m_get hx hb hts hin8 hown hK hW 4 (by decide) (hts _ (by decide +kernel)) (v := .ref (ad 4)) rfl dX8_mend_175 ?_
            refine lv_iload_n hx hb dX8_mend_178 rfl (lv_at hl 6 rfl) ?_
            refine m_ald (d := 4) (j := h) hx hb hK hW rfl (by omega) (show h < 4 from by omega) dX8_mend_179 ?_
            refine z_top (show τe 4 h = τ 4 h from by rw [heo 4 (by decide) (by decide)]) ?_
            refine z_icmp_ge (tgt := 278) hx hb (by omega) (by omega) dX8_mend_180 (by decide) (fun c4 => ?_) (fun c4 => ?_)
            · refine lv_iload_n hx hb dX8_mend_278 rfl (lv_at hl 3 rfl) ?_
              exact m_xret hx hb hr hlocks (⟨⟨heo, hR, fun j hj => heR j (by omega)⟩, hW⟩) hS hz (rfl) dX8_mend_279
            · have hlk := heL k (by omega)
              refine lv_aload_n hx hb dX8_mend_183 rfl (lv_at hl 5 rfl) ?_
              refine m_get hx hb hts hin8 hown hK hW 5 (by decide) (hts _ (by decide +kernel)) (v := .ref (ad 5)) rfl dX8_mend_184 ?_
              refine z_bipush hx hb dX8_mend_187 (by decide) ?_
              refine lv_iload_n hx hb dX8_mend_189 rfl (lv_at hl 6 rfl) ?_
              refine z_imul hx hb dX8_mend_190 ?_
              refine lv_iload hx hb dX8_mend_191 (lv_at hl 2 rfl) ?_
              refine z_iadd hx hb dX8_mend_193 ?_
              refine m_ald (d := 5) (j := (20 * h) + k) hx hb hK hW rfl (by omega) (show (20 * h) + k < 80 from by omega) dX8_mend_194 ?_
              refine z_top (show τe 5 ((20 * h) + k) = τ 5 ((20 * h) + k) from by rw [heo 5 (by decide) (by decide)]) ?_
              have r5 : (0 : Int) ≤ τ 5 ((20 * h) + k) ∧ τ 5 ((20 * h) + k) ≤ 100000 := hI 5 ((20 * h) + k)
              refine lv_istore (lv' := [(7, .int (iI (τ 5 ((20 * h) + k)))), (4, .int (iI ((chS (LG τ h) (mkF τ h) (meO τ h) k).1))), (5, .int (iI ((chS (LG τ h) (mkF τ h) (meO τ h) k).2))), (6, .int (iI ((k : Int)))), (3, .int (iI (meO τ h))), (2, .int (iI (enO τ h))), (0, .ref (ad 0)), (1, .int (iI ((h : Int))))]) hx hb dX8_mend_195 hl (by decide) rfl (fun ls hl => ?_)
              refine lv_aload_n hx hb dX8_mend_197 rfl (lv_at hl 6 rfl) ?_
              refine m_get hx hb hts hin8 hown hK hW 7 (by decide) (hts _ (by decide +kernel)) (v := .ref (ad 7)) rfl dX8_mend_198 ?_
              refine lv_iload hx hb dX8_mend_201 (lv_at hl 3 rfl) ?_
              have jn232 : ∀ xj : Int, xj = (bI (rtP τ h k)) → ∀ ls : Array Slot, lv_has ls 8 [(7, .int (iI (τ 5 ((20 * h) + k)))), (4, .int (iI ((chS (LG τ h) (mkF τ h) (meO τ h) k).1))), (5, .int (iI ((chS (LG τ h) (mkF τ h) (meO τ h) k).2))), (6, .int (iI ((k : Int)))), (3, .int (iI (meO τ h))), (2, .int (iI (enO τ h))), (0, .ref (ad 0)), (1, .int (iI ((h : Int))))] → W p l e { frames := 1, cells := 0, slots := 0, locals := 23 } s m [.ref (ad 0), .int (iI ((h : Int)))].toArray below meth c H locs 0 0 (MQ below (mX D cI cZ ad (some (.int (iI (meO τ h)))) (MeP τ h)) [.ref (ad 0), .int (iI ((h : Int)))].toArray s 0 0 (MA ad)) (F0 m 232 ls (.int (iI xj) :: .int (iI ((k : Int))) :: .ref (ad 7) :: [])) := by
                intro xj ej ls hl
                subst ej
                refine m_zst (d := 7) (j := k) (v := bI (rtP τ h k)) hx hb hK hW hS hz rfl (by omega) (show k < 20 from by omega) (bI_01 _) dX8_mend_232 (fun H locs hW hS hz => ?_)
                have hR := Rng.tu (c := 7) (i := k) (v := bI (rtP τ h k)) hR (show (0 : Int) ≤ (bI (rtP τ h k)) from (bI_r _).1) (show (bI (rtP τ h k)) ≤ 1 from (bI_r _).2)
                have jn250 : ∀ xj : Int, xj = ((chS (LG τ h) (mkF τ h) (meO τ h) (k + 1)).2) → ∀ ls : Array Slot, lv_has ls 8 [(7, .int (iI (τ 5 ((20 * h) + k)))), (4, .int (iI ((chS (LG τ h) (mkF τ h) (meO τ h) k).1))), (5, .int (iI ((chS (LG τ h) (mkF τ h) (meO τ h) k).2))), (6, .int (iI ((k : Int)))), (3, .int (iI (meO τ h))), (2, .int (iI (enO τ h))), (0, .ref (ad 0)), (1, .int (iI ((h : Int))))] → W p l e { frames := 1, cells := 0, slots := 0, locals := 23 } s m [.ref (ad 0), .int (iI ((h : Int)))].toArray below meth c H locs 0 0 (MQ below (mX D cI cZ ad (some (.int (iI (meO τ h)))) (MeP τ h)) [.ref (ad 0), .int (iI ((h : Int)))].toArray s 0 0 (MA ad)) (F0 m 250 ls (.int (iI xj) :: [])) := by
                  intro xj ej ls hl
                  subst ej
                  refine lv_istore (lv' := [(5, .int (iI ((chS (LG τ h) (mkF τ h) (meO τ h) (k + 1)).2))), (7, .int (iI (τ 5 ((20 * h) + k)))), (4, .int (iI ((chS (LG τ h) (mkF τ h) (meO τ h) k).1))), (6, .int (iI ((k : Int)))), (3, .int (iI (meO τ h))), (2, .int (iI (enO τ h))), (0, .ref (ad 0)), (1, .int (iI ((h : Int))))]) hx hb dX8_mend_250 hl (by decide) rfl (fun ls hl => ?_)
                  refine lv_iload hx hb dX8_mend_252 (lv_at hl 2 rfl) ?_
                  have jn269 : ∀ xj : Int, xj = (bI (rtP τ h k)) → ∀ ls : Array Slot, lv_has ls 8 [(5, .int (iI ((chS (LG τ h) (mkF τ h) (meO τ h) (k + 1)).2))), (7, .int (iI (τ 5 ((20 * h) + k)))), (4, .int (iI ((chS (LG τ h) (mkF τ h) (meO τ h) k).1))), (6, .int (iI ((k : Int)))), (3, .int (iI (meO τ h))), (2, .int (iI (enO τ h))), (0, .ref (ad 0)), (1, .int (iI ((h : Int))))] → W p l e { frames := 1, cells := 0, slots := 0, locals := 23 } s m [.ref (ad 0), .int (iI ((h : Int)))].toArray below meth c H locs 0 0 (MQ below (mX D cI cZ ad (some (.int (iI (meO τ h)))) (MeP τ h)) [.ref (ad 0), .int (iI ((h : Int)))].toArray s 0 0 (MA ad)) (F0 m 269 ls (.int (iI xj) :: .int (iI ((chS (LG τ h) (mkF τ h) (meO τ h) k).1)) :: [])) := by
                    intro xj ej ls hl
                    subst ej
                    refine z_isub hx hb dX8_mend_269 ?_
                    refine lv_istore (lv' := [(4, .int (iI (((chS (LG τ h) (mkF τ h) (meO τ h) k).1) - (bI (rtP τ h k))))), (5, .int (iI ((chS (LG τ h) (mkF τ h) (meO τ h) (k + 1)).2))), (7, .int (iI (τ 5 ((20 * h) + k)))), (6, .int (iI ((k : Int)))), (3, .int (iI (meO τ h))), (2, .int (iI (enO τ h))), (0, .ref (ad 0)), (1, .int (iI ((h : Int))))]) hx hb dX8_mend_270 hl (by decide) rfl (fun ls hl => ?_)
                    refine z_iinc (k := 3) (lv' := [(6, .int (iI ((k : Int) + 1))), (4, .int (iI (((chS (LG τ h) (mkF τ h) (meO τ h) k).1) - (bI (rtP τ h k))))), (5, .int (iI ((chS (LG τ h) (mkF τ h) (meO τ h) (k + 1)).2))), (7, .int (iI (τ 5 ((20 * h) + k)))), (3, .int (iI (meO τ h))), (2, .int (iI (enO τ h))), (0, .ref (ad 0)), (1, .int (iI ((h : Int))))]) hx hb dX8_mend_272 hl rfl (by decide) rfl (fun ls hl => ?_)
                    refine lv_goto (tgt := 172) hx hb dX8_mend_275 (by decide) ?_
                    exact ih172 (k + 1) (((chS (LG τ h) (mkF τ h) (meO τ h) k).1) - (bI (rtP τ h k))) ((chS (LG τ h) (mkF τ h) (meO τ h) (k + 1)).2) ((k : Int) + 1) (tu τe 7 k (bI (rtP τ h k))) ch_n rfl (by omega) (by omega) (by omega) (fun c h6 h7 => by rw [tu_n h7]; exact heo c h6 h7) (fun j hj => by rw [tu_n (by decide)]; exact heL j hj) (fun j hj => if hjk : j = k then (by rw [hjk, tu_s]) else (by rw [tu_c, fu_n hjk]; exact heR j (by omega))) _ _ hW hS hz hR ls (lv_sub hl [1, 2, 0, 4, 5, 6, 7] rfl)
                  refine lv_aload_n hx hb dX8_mend_254 rfl (lv_at hl 6 rfl) ?_
                  refine m_get hx hb hts hin8 hown hK hW 7 (by decide) (hts _ (by decide +kernel)) (v := .ref (ad 7)) rfl dX8_mend_255 ?_
                  refine lv_iload hx hb dX8_mend_258 (lv_at hl 3 rfl) ?_
                  refine m_zld (d := 7) (j := k) hx hb hK hW rfl (by omega) (show k < 20 from by omega) dX8_mend_260 ?_
                  refine z_top (show (tu τe 7 k (bI (rtP τ h k))) 7 k = bI (rtP τ h k) from by rw [tu_s]) ?_
                  refine z_if_eqB (tgt := 268) hx hb dX8_mend_261 (by decide) (fun c6 => ?_) (fun c6 => ?_)
                  · refine z_iconst hx hb dX8_mend_268 ?_
                    exact jn269 0 (bI_f c6).symm ls (lv_sub hl [0, 1, 2, 3, 4, 5, 6, 7] rfl)
                  · refine z_iconst hx hb dX8_mend_264 ?_
                    refine lv_goto (tgt := 269) hx hb dX8_mend_265 (by decide) ?_
                    exact jn269 1 (bI_t c6).symm ls (lv_sub hl [0, 1, 2, 3, 4, 5, 6, 7] rfl)
                refine lv_aload_n hx hb dX8_mend_233 rfl (lv_at hl 6 rfl) ?_
                refine m_get hx hb hts hin8 hown hK hW 7 (by decide) (hts _ (by decide +kernel)) (v := .ref (ad 7)) rfl dX8_mend_234 ?_
                refine lv_iload hx hb dX8_mend_237 (lv_at hl 3 rfl) ?_
                refine m_zld (d := 7) (j := k) hx hb hK hW rfl (by omega) (show k < 20 from by omega) dX8_mend_239 ?_
                refine z_top (show (tu τe 7 k (bI (rtP τ h k))) 7 k = bI (rtP τ h k) from by rw [tu_s]) ?_
                refine z_if_eqB (tgt := 248) hx hb dX8_mend_240 (by decide) (fun c7 => ?_) (fun c7 => ?_)
                · refine lv_iload hx hb dX8_mend_248 (lv_at hl 2 rfl) ?_
                  exact jn250 ((chS (LG τ h) (mkF τ h) (meO τ h) k).2) (by rw [ch_f c7]) ls (lv_sub hl [0, 1, 2, 3, 4, 5, 6, 7] rfl)
                · refine lv_iload hx hb dX8_mend_243 (lv_at hl 0 rfl) ?_
                  refine lv_goto (tgt := 250) hx hb dX8_mend_245 (by decide) ?_
                  exact jn250 (τ 5 ((20 * h) + k)) (by rw [ch_t c7]; rfl) ls (lv_sub hl [0, 1, 2, 3, 4, 5, 6, 7] rfl)
              refine lv_iload hx hb dX8_mend_203 (lv_at hl 1 rfl) ?_
              refine z_if_le (tgt := 231) hx hb (by omega) dX8_mend_205 (by decide) (fun c8 => ?_) (fun c8 => ?_)
              · refine z_iconst hx hb dX8_mend_231 ?_
                exact jn232 0 (bI_f (show ¬ (0 < (chS (LG τ h) (mkF τ h) (meO τ h) k).1 ∧ LG τ h k = (chS (LG τ h) (mkF τ h) (meO τ h) k).1 ∧ (chS (LG τ h) (mkF τ h) (meO τ h) k).2 < τ 5 (20 * h + k)) by omega)).symm ls (lv_sub hl [0, 1, 2, 3, 4, 5, 6, 7] rfl)
              · refine lv_aload_n hx hb dX8_mend_208 rfl (lv_at hl 6 rfl) ?_
                refine m_get hx hb hts hin8 hown hK hW 6 (by decide) (hts _ (by decide +kernel)) (v := .ref (ad 6)) rfl dX8_mend_209 ?_
                refine lv_iload hx hb dX8_mend_212 (lv_at hl 3 rfl) ?_
                refine m_ald (d := 6) (j := k) hx hb hK hW rfl (by omega) (show k < 20 from by omega) dX8_mend_214 ?_
                have r9 : (-2147483648 : Int) ≤ τe 6 k ∧ τe 6 k ≤ 2147483647 := hR 6 k
                refine lv_iload hx hb dX8_mend_215 (lv_at hl 1 rfl) ?_
                refine z_icmp_ne (tgt := 231) hx hb (by omega) (by omega) dX8_mend_217 (by decide) (fun c10 => ?_) (fun c10 => ?_)
                · refine z_iconst hx hb dX8_mend_231 ?_
                  exact jn232 0 (bI_f (show ¬ (0 < (chS (LG τ h) (mkF τ h) (meO τ h) k).1 ∧ LG τ h k = (chS (LG τ h) (mkF τ h) (meO τ h) k).1 ∧ (chS (LG τ h) (mkF τ h) (meO τ h) k).2 < τ 5 (20 * h + k)) by omega)).symm ls (lv_sub hl [0, 1, 2, 3, 4, 5, 6, 7] rfl)
                · refine lv_iload hx hb dX8_mend_220 (lv_at hl 0 rfl) ?_
                  refine lv_iload hx hb dX8_mend_222 (lv_at hl 2 rfl) ?_
                  refine z_icmp_le (tgt := 231) hx hb (by omega) (by omega) dX8_mend_224 (by decide) (fun c11 => ?_) (fun c11 => ?_)
                  · refine z_iconst hx hb dX8_mend_231 ?_
                    exact jn232 0 (bI_f (show ¬ (0 < (chS (LG τ h) (mkF τ h) (meO τ h) k).1 ∧ LG τ h k = (chS (LG τ h) (mkF τ h) (meO τ h) k).1 ∧ (chS (LG τ h) (mkF τ h) (meO τ h) k).2 < τ 5 (20 * h + k)) by omega)).symm ls (lv_sub hl [0, 1, 2, 3, 4, 5, 6, 7] rfl)
                  · refine z_iconst hx hb dX8_mend_227 ?_
                    refine lv_goto (tgt := 232) hx hb dX8_mend_228 (by decide) ?_
                    exact jn232 1 (bI_t (show 0 < (chS (LG τ h) (mkF τ h) (meO τ h) k).1 ∧ LG τ h k = (chS (LG τ h) (mkF τ h) (meO τ h) k).1 ∧ (chS (LG τ h) (mkF τ h) (meO τ h) k).2 < τ 5 (20 * h + k) by omega)).symm ls (lv_sub hl [0, 1, 2, 3, 4, 5, 6, 7] rfl)
        exact lp172 (M + 1) 0 (meO τ h) (-1) 0 τc rfl rfl (by omega) (by omega) (by omega) (fun c h6 _ => ho c h6) hLG (fun j hj => absurd hj (by omega)) _ _ hW hS hz hR ls (lv_sub hl [2, 1, 0, 3, 4, 5, 6] rfl)
      · refine lv_aload_n hx hb dX8_mend_23 rfl (lv_at hl 3 rfl) ?_
        refine m_get hx hb hts hin8 hown hK hW 5 (by decide) (hts _ (by decide +kernel)) (v := .ref (ad 5)) rfl dX8_mend_24 ?_
        refine z_bipush hx hb dX8_mend_27 (by decide) ?_
        refine lv_iload_n hx hb dX8_mend_29 rfl (lv_at hl 4 rfl) ?_
        refine z_imul hx hb dX8_mend_30 ?_
        refine lv_iload hx hb dX8_mend_31 (lv_at hl 1 rfl) ?_
        refine z_iadd hx hb dX8_mend_33 ?_
        refine m_ald (d := 5) (j := (20 * h) + (M - (r + 1))) hx hb hK hW rfl (by omega) (show (20 * h) + (M - (r + 1)) < 80 from by omega) dX8_mend_34 ?_
        refine z_top (show τc 5 ((20 * h) + (M - (r + 1))) = τ 5 ((20 * h) + (M - (r + 1))) from by rw [ho 5 (by decide)]) ?_
        have r12 : (0 : Int) ≤ τ 5 ((20 * h) + (M - (r + 1))) ∧ τ 5 ((20 * h) + (M - (r + 1))) ≤ 100000 := hI 5 ((20 * h) + (M - (r + 1)))
        refine lv_istore (lv' := [(5, .int (iI (τ 5 ((20 * h) + (M - (r + 1)))))), (3, .int (iI (msS (mkF τ h) (enO τ h) M r))), (4, .int (iI ((M : Int) - ((r : Int) + 1)))), (2, .int (iI (enO τ h))), (0, .ref (ad 0)), (1, .int (iI ((h : Int))))]) hx hb dX8_mend_35 hl (by decide) rfl (fun ls hl => ?_)
        refine lv_aload_n hx hb dX8_mend_37 rfl (lv_at hl 4 rfl) ?_
        refine m_get hx hb hts hin8 hown hK hW 6 (by decide) (hts _ (by decide +kernel)) (v := .ref (ad 6)) rfl dX8_mend_38 ?_
        refine lv_iload hx hb dX8_mend_41 (lv_at hl 2 rfl) ?_
        have jn54 : ∀ xj : Int, xj = (if enO τ h < mkF τ h (M - (r + 1)) then 0 else 1 + mxK (lgS (mkF τ h) (enO τ h) M r) (mkF τ h) (mkF τ h (M - (r + 1))) (M - r) 0) → ∀ ls : Array Slot, lv_has ls 8 [(5, .int (iI (τ 5 ((20 * h) + (M - (r + 1)))))), (3, .int (iI (msS (mkF τ h) (enO τ h) M r))), (4, .int (iI ((M : Int) - ((r : Int) + 1)))), (2, .int (iI (enO τ h))), (0, .ref (ad 0)), (1, .int (iI ((h : Int))))] → W p l e { frames := 1, cells := 0, slots := 0, locals := 23 } s m [.ref (ad 0), .int (iI ((h : Int)))].toArray below meth c H locs 0 0 (MQ below (mX D cI cZ ad (some (.int (iI (meO τ h)))) (MeP τ h)) [.ref (ad 0), .int (iI ((h : Int)))].toArray s 0 0 (MA ad)) (F0 m 54 ls (.int (iI xj) :: .int (iI ((M : Int) - ((r : Int) + 1))) :: .ref (ad 6) :: [])) := by
          intro xj ej ls hl
          subst ej
          have hif : (-2147483648 : Int) ≤ (if enO τ h < mkF τ h (M - (r + 1)) then 0 else 1 + mxK (lgS (mkF τ h) (enO τ h) M r) (mkF τ h) (mkF τ h (M - (r + 1))) (M - r) 0) ∧ (if enO τ h < mkF τ h (M - (r + 1)) then 0 else 1 + mxK (lgS (mkF τ h) (enO τ h) M r) (mkF τ h) (mkF τ h (M - (r + 1))) (M - r) 0) ≤ 2147483647 := by have e0 : mxK (lgS (mkF τ h) (enO τ h) M r) (mkF τ h) (mkF τ h (M - (r + 1))) (M - r) 0 = 0 := rfl; rw [e0]; split <;> omega
          refine m_ast (d := 6) (j := M - (r + 1)) (v := if enO τ h < mkF τ h (M - (r + 1)) then 0 else 1 + mxK (lgS (mkF τ h) (enO τ h) M r) (mkF τ h) (mkF τ h (M - (r + 1))) (M - r) 0) hx hb hK hW hS hz rfl (by omega) (show M - (r + 1) < 20 from by omega) dX8_mend_54 (fun H locs hW hS hz => ?_)
          have hR := Rng.tu (c := 6) (i := M - (r + 1)) (v := if enO τ h < mkF τ h (M - (r + 1)) then 0 else 1 + mxK (lgS (mkF τ h) (enO τ h) M r) (mkF τ h) (mkF τ h (M - (r + 1))) (M - r) 0) hR (show (-2147483648 : Int) ≤ (if enO τ h < mkF τ h (M - (r + 1)) then 0 else 1 + mxK (lgS (mkF τ h) (enO τ h) M r) (mkF τ h) (mkF τ h (M - (r + 1))) (M - r) 0) from by omega) (show (if enO τ h < mkF τ h (M - (r + 1)) then 0 else 1 + mxK (lgS (mkF τ h) (enO τ h) M r) (mkF τ h) (mkF τ h (M - (r + 1))) (M - r) 0) ≤ 2147483647 from by omega)
          refine lv_iload hx hb dX8_mend_55 (lv_at hl 2 rfl) ?_
          refine z_iconst hx hb dX8_mend_57 ?_
          refine z_iadd hx hb dX8_mend_58 ?_
          refine lv_istore (lv' := [(6, .int (iI (((M : Int) - ((r : Int) + 1)) + 1))), (5, .int (iI (τ 5 ((20 * h) + (M - (r + 1)))))), (3, .int (iI (msS (mkF τ h) (enO τ h) M r))), (4, .int (iI ((M : Int) - ((r : Int) + 1)))), (2, .int (iI (enO τ h))), (0, .ref (ad 0)), (1, .int (iI ((h : Int))))]) hx hb dX8_mend_59 hl (by decide) rfl (fun ls hl => ?_)
          have lp61 : ∀ (n61 q : Nat) (x6 : Int) (τd : Tau), x6 = (M : Int) - (r : Int) + (q : Int) → q ≤ r → r + 1 ≤ q + n61 → (∀ c, c ≠ 6 → τd c = τ c) → (∀ j, M - r ≤ j → j < M → τd 6 j = lgS (mkF τ h) (enO τ h) M r j) → (τd 6 (M - (r + 1)) = (if enO τ h < mkF τ h (M - (r + 1)) then 0 else 1 + mxK (lgS (mkF τ h) (enO τ h) M r) (mkF τ h) (mkF τ h (M - (r + 1))) (M - r) q)) → ∀ (H : Heap) (locs : List Loc), MW D cI cZ ad (τd) H → va_S (MA ad) s.heap H locs → H.size = s.heap.size → Rng (τd) → ∀ ls : Array Slot, lv_has ls 8 [(6, .int (iI (x6))), (5, .int (iI (τ 5 ((20 * h) + (M - (r + 1)))))), (3, .int (iI (msS (mkF τ h) (enO τ h) M r))), (4, .int (iI ((M : Int) - ((r : Int) + 1)))), (2, .int (iI (enO τ h))), (0, .ref (ad 0)), (1, .int (iI ((h : Int))))] → W p l e { frames := 1, cells := 0, slots := 0, locals := 23 } s m [.ref (ad 0), .int (iI ((h : Int)))].toArray below meth c H locs 0 0 (MQ below (mX D cI cZ ad (some (.int (iI (meO τ h)))) (MeP τ h)) [.ref (ad 0), .int (iI ((h : Int)))].toArray s 0 0 (MA ad)) (F0 m 61 ls []) := by
            intro n61
            induction n61 with
            | zero => intro q x6 τd ex6 hk1 hk2; exact absurd hk2 (by omega)
            | succ n61 ih61 =>
              intro q x6 τd ex6 hk1 hk2 hdo hdL hdk H locs hW hS hz hR ls hl
              subst ex6
              refine lv_iload hx hb dX8_mend_61 (lv_at hl 0 rfl) ?_
              refine lv_aload_n hx hb dX8_mend_63 rfl (lv_at hl 5 rfl) ?_
              refine m_get hx hb hts hin8 hown hK hW 4 (by decide) (hts _ (by decide +kernel)) (v := .ref (ad 4)) rfl dX8_mend_64 ?_
              refine lv_iload_n hx hb dX8_mend_67 rfl (lv_at hl 6 rfl) ?_
              refine m_ald (d := 4) (j := h) hx hb hK hW rfl (by omega) (show h < 4 from by omega) dX8_mend_68 ?_
              refine z_top (show τd 4 h = τ 4 h from by rw [hdo 4 (by decide)]) ?_
              refine z_icmp_ge (tgt := 134) hx hb (by omega) (by omega) dX8_mend_69 (by decide) (fun c13 => ?_) (fun c13 => ?_)
              · have hv : τd 6 (M - (r + 1)) = vlS (lgS (mkF τ h) (enO τ h) M r) (mkF τ h) (enO τ h) (M - (r + 1)) (M - r) r := by rw [hdk, show q = r by omega]; rfl
                have jn156 : ∀ xj : Int, xj = (msS (mkF τ h) (enO τ h) M (r + 1)) → ∀ ls : Array Slot, lv_has ls 8 [(6, .int (iI ((M : Int) - (r : Int) + (q : Int)))), (5, .int (iI (τ 5 ((20 * h) + (M - (r + 1)))))), (3, .int (iI (msS (mkF τ h) (enO τ h) M r))), (4, .int (iI ((M : Int) - ((r : Int) + 1)))), (2, .int (iI (enO τ h))), (0, .ref (ad 0)), (1, .int (iI ((h : Int))))] → W p l e { frames := 1, cells := 0, slots := 0, locals := 23 } s m [.ref (ad 0), .int (iI ((h : Int)))].toArray below meth c H locs 0 0 (MQ below (mX D cI cZ ad (some (.int (iI (meO τ h)))) (MeP τ h)) [.ref (ad 0), .int (iI ((h : Int)))].toArray s 0 0 (MA ad)) (F0 m 156 ls (.int (iI xj) :: [])) := by
                  intro xj ej ls hl
                  subst ej
                  refine lv_istore_n (lv' := [(3, .int (iI (msS (mkF τ h) (enO τ h) M (r + 1)))), (6, .int (iI ((M : Int) - (r : Int) + (q : Int)))), (5, .int (iI (τ 5 ((20 * h) + (M - (r + 1)))))), (4, .int (iI ((M : Int) - ((r : Int) + 1)))), (2, .int (iI (enO τ h))), (0, .ref (ad 0)), (1, .int (iI ((h : Int))))]) hx hb dX8_mend_156 rfl hl (by decide) rfl (fun ls hl => ?_)
                  refine z_iinc (k := 3) (lv' := [(4, .int (iI (((M : Int) - ((r : Int) + 1)) + (-1)))), (3, .int (iI (msS (mkF τ h) (enO τ h) M (r + 1)))), (6, .int (iI ((M : Int) - (r : Int) + (q : Int)))), (5, .int (iI (τ 5 ((20 * h) + (M - (r + 1)))))), (2, .int (iI (enO τ h))), (0, .ref (ad 0)), (1, .int (iI ((h : Int))))]) hx hb dX8_mend_157 hl rfl (by decide) rfl (fun ls hl => ?_)
                  refine lv_goto (tgt := 18) hx hb dX8_mend_160 (by decide) ?_
                  exact ih18 (r + 1) (msS (mkF τ h) (enO τ h) M (r + 1)) (((M : Int) - ((r : Int) + 1)) + (-1)) τd rfl (by omega) (by omega) (by omega) hdo (fun j h1 h2 => by show _ = fu (lgS (mkF τ h) (enO τ h) M r) (M - (r + 1)) (vlS (lgS (mkF τ h) (enO τ h) M r) (mkF τ h) (enO τ h) (M - (r + 1)) (M - r) r) j; exact if hj : j = M - (r + 1) then (by rw [hj, fu_s]; exact hv) else (by rw [fu_n hj]; exact hdL j (by omega) h2)) _ _ hW hS hz hR ls (lv_sub hl [1, 0, 4, 5, 6] rfl)
                refine lv_aload_n hx hb dX8_mend_134 rfl (lv_at hl 5 rfl) ?_
                refine m_get hx hb hts hin8 hown hK hW 6 (by decide) (hts _ (by decide +kernel)) (v := .ref (ad 6)) rfl dX8_mend_135 ?_
                refine lv_iload hx hb dX8_mend_138 (lv_at hl 3 rfl) ?_
                refine m_ald (d := 6) (j := M - (r + 1)) hx hb hK hW rfl (by omega) (show M - (r + 1) < 20 from by omega) dX8_mend_140 ?_
                have r14 : (-2147483648 : Int) ≤ τd 6 (M - (r + 1)) ∧ τd 6 (M - (r + 1)) ≤ 2147483647 := hR 6 (M - (r + 1))
                refine lv_iload_n hx hb dX8_mend_141 rfl (lv_at hl 2 rfl) ?_
                refine z_icmp_le (tgt := 155) hx hb (by omega) (by omega) dX8_mend_142 (by decide) (fun c15 => ?_) (fun c15 => ?_)
                · refine lv_iload_n hx hb dX8_mend_155 rfl (lv_at hl 2 rfl) ?_
                  exact jn156 (msS (mkF τ h) (enO τ h) M r) (by show _ = max (msS (mkF τ h) (enO τ h) M r) (vlS (lgS (mkF τ h) (enO τ h) M r) (mkF τ h) (enO τ h) (M - (r + 1)) (M - r) r); omega) ls (lv_sub hl [0, 1, 2, 3, 4, 5, 6] rfl)
                · refine lv_aload_n hx hb dX8_mend_145 rfl (lv_at hl 5 rfl) ?_
                  refine m_get hx hb hts hin8 hown hK hW 6 (by decide) (hts _ (by decide +kernel)) (v := .ref (ad 6)) rfl dX8_mend_146 ?_
                  refine lv_iload hx hb dX8_mend_149 (lv_at hl 3 rfl) ?_
                  refine m_ald (d := 6) (j := M - (r + 1)) hx hb hK hW rfl (by omega) (show M - (r + 1) < 20 from by omega) dX8_mend_151 ?_
                  have r16 : (-2147483648 : Int) ≤ τd 6 (M - (r + 1)) ∧ τd 6 (M - (r + 1)) ≤ 2147483647 := hR 6 (M - (r + 1))
                  refine lv_goto (tgt := 156) hx hb dX8_mend_152 (by decide) ?_
                  exact jn156 (τd 6 (M - (r + 1))) (by show _ = max (msS (mkF τ h) (enO τ h) M r) (vlS (lgS (mkF τ h) (enO τ h) M r) (mkF τ h) (enO τ h) (M - (r + 1)) (M - r) r); omega) ls (lv_sub hl [0, 1, 2, 3, 4, 5, 6] rfl)
              · refine lv_iload hx hb dX8_mend_72 (lv_at hl 1 rfl) ?_
                refine lv_iload_n hx hb dX8_mend_74 rfl (lv_at hl 4 rfl) ?_
                refine z_icmp_gt (tgt := 134) hx hb (by omega) (by omega) dX8_mend_75 (by decide) (fun c17 => ?_) (fun c17 => ?_)
                · have hv : τd 6 (M - (r + 1)) = vlS (lgS (mkF τ h) (enO τ h) M r) (mkF τ h) (enO τ h) (M - (r + 1)) (M - r) r := by rw [hdk]; unfold vlS; rw [if_pos (show enO τ h < mkF τ h (M - (r + 1)) from c17), if_pos (show enO τ h < mkF τ h (M - (r + 1)) from c17)]
                  have jn156 : ∀ xj : Int, xj = (msS (mkF τ h) (enO τ h) M (r + 1)) → ∀ ls : Array Slot, lv_has ls 8 [(6, .int (iI ((M : Int) - (r : Int) + (q : Int)))), (5, .int (iI (τ 5 ((20 * h) + (M - (r + 1)))))), (3, .int (iI (msS (mkF τ h) (enO τ h) M r))), (4, .int (iI ((M : Int) - ((r : Int) + 1)))), (2, .int (iI (enO τ h))), (0, .ref (ad 0)), (1, .int (iI ((h : Int))))] → W p l e { frames := 1, cells := 0, slots := 0, locals := 23 } s m [.ref (ad 0), .int (iI ((h : Int)))].toArray below meth c H locs 0 0 (MQ below (mX D cI cZ ad (some (.int (iI (meO τ h)))) (MeP τ h)) [.ref (ad 0), .int (iI ((h : Int)))].toArray s 0 0 (MA ad)) (F0 m 156 ls (.int (iI xj) :: [])) := by
                    intro xj ej ls hl
                    subst ej
                    refine lv_istore_n (lv' := [(3, .int (iI (msS (mkF τ h) (enO τ h) M (r + 1)))), (6, .int (iI ((M : Int) - (r : Int) + (q : Int)))), (5, .int (iI (τ 5 ((20 * h) + (M - (r + 1)))))), (4, .int (iI ((M : Int) - ((r : Int) + 1)))), (2, .int (iI (enO τ h))), (0, .ref (ad 0)), (1, .int (iI ((h : Int))))]) hx hb dX8_mend_156 rfl hl (by decide) rfl (fun ls hl => ?_)
                    refine z_iinc (k := 3) (lv' := [(4, .int (iI (((M : Int) - ((r : Int) + 1)) + (-1)))), (3, .int (iI (msS (mkF τ h) (enO τ h) M (r + 1)))), (6, .int (iI ((M : Int) - (r : Int) + (q : Int)))), (5, .int (iI (τ 5 ((20 * h) + (M - (r + 1)))))), (2, .int (iI (enO τ h))), (0, .ref (ad 0)), (1, .int (iI ((h : Int))))]) hx hb dX8_mend_157 hl rfl (by decide) rfl (fun ls hl => ?_)
                    refine lv_goto (tgt := 18) hx hb dX8_mend_160 (by decide) ?_
                    exact ih18 (r + 1) (msS (mkF τ h) (enO τ h) M (r + 1)) (((M : Int) - ((r : Int) + 1)) + (-1)) τd rfl (by omega) (by omega) (by omega) hdo (fun j h1 h2 => by show _ = fu (lgS (mkF τ h) (enO τ h) M r) (M - (r + 1)) (vlS (lgS (mkF τ h) (enO τ h) M r) (mkF τ h) (enO τ h) (M - (r + 1)) (M - r) r) j; exact if hj : j = M - (r + 1) then (by rw [hj, fu_s]; exact hv) else (by rw [fu_n hj]; exact hdL j (by omega) h2)) _ _ hW hS hz hR ls (lv_sub hl [1, 0, 4, 5, 6] rfl)
                  refine lv_aload_n hx hb dX8_mend_134 rfl (lv_at hl 5 rfl) ?_
                  refine m_get hx hb hts hin8 hown hK hW 6 (by decide) (hts _ (by decide +kernel)) (v := .ref (ad 6)) rfl dX8_mend_135 ?_
                  refine lv_iload hx hb dX8_mend_138 (lv_at hl 3 rfl) ?_
                  refine m_ald (d := 6) (j := M - (r + 1)) hx hb hK hW rfl (by omega) (show M - (r + 1) < 20 from by omega) dX8_mend_140 ?_
                  have r18 : (-2147483648 : Int) ≤ τd 6 (M - (r + 1)) ∧ τd 6 (M - (r + 1)) ≤ 2147483647 := hR 6 (M - (r + 1))
                  refine lv_iload_n hx hb dX8_mend_141 rfl (lv_at hl 2 rfl) ?_
                  refine z_icmp_le (tgt := 155) hx hb (by omega) (by omega) dX8_mend_142 (by decide) (fun c19 => ?_) (fun c19 => ?_)
                  · refine lv_iload_n hx hb dX8_mend_155 rfl (lv_at hl 2 rfl) ?_
                    exact jn156 (msS (mkF τ h) (enO τ h) M r) (by show _ = max (msS (mkF τ h) (enO τ h) M r) (vlS (lgS (mkF τ h) (enO τ h) M r) (mkF τ h) (enO τ h) (M - (r + 1)) (M - r) r); omega) ls (lv_sub hl [0, 1, 2, 3, 4, 5, 6] rfl)
                  · refine lv_aload_n hx hb dX8_mend_145 rfl (lv_at hl 5 rfl) ?_
                    refine m_get hx hb hts hin8 hown hK hW 6 (by decide) (hts _ (by decide +kernel)) (v := .ref (ad 6)) rfl dX8_mend_146 ?_
                    refine lv_iload hx hb dX8_mend_149 (lv_at hl 3 rfl) ?_
                    refine m_ald (d := 6) (j := M - (r + 1)) hx hb hK hW rfl (by omega) (show M - (r + 1) < 20 from by omega) dX8_mend_151 ?_
                    have r20 : (-2147483648 : Int) ≤ τd 6 (M - (r + 1)) ∧ τd 6 (M - (r + 1)) ≤ 2147483647 := hR 6 (M - (r + 1))
                    refine lv_goto (tgt := 156) hx hb dX8_mend_152 (by decide) ?_
                    exact jn156 (τd 6 (M - (r + 1))) (by show _ = max (msS (mkF τ h) (enO τ h) M r) (vlS (lgS (mkF τ h) (enO τ h) M r) (mkF τ h) (enO τ h) (M - (r + 1)) (M - r) r); omega) ls (lv_sub hl [0, 1, 2, 3, 4, 5, 6] rfl)
                · have hne : ¬ enO τ h < mkF τ h (M - (r + 1)) := c17
                  have hm0 := mx_0 (lgS (mkF τ h) (enO τ h) M r) (mkF τ h) (mkF τ h (M - (r + 1))) (M - r) q
                  rw [if_neg hne] at hdk
                  have hdj := hdL (M - r + q) (by omega) (by omega)
                  have hlj := lg_r (mkF τ h) (enO τ h) M r (M - r + q)
                  refine lv_aload_n hx hb dX8_mend_78 rfl (lv_at hl 5 rfl) ?_
                  refine m_get hx hb hts hin8 hown hK hW 5 (by decide) (hts _ (by decide +kernel)) (v := .ref (ad 5)) rfl dX8_mend_79 ?_
                  refine z_bipush hx hb dX8_mend_82 (by decide) ?_
                  refine lv_iload_n hx hb dX8_mend_84 rfl (lv_at hl 6 rfl) ?_
                  refine z_imul hx hb dX8_mend_85 ?_
                  refine lv_iload hx hb dX8_mend_86 (lv_at hl 0 rfl) ?_
                  refine z_iadd hx hb dX8_mend_88 ?_
                  refine m_ald (d := 5) (j := (20 * h) + (M - r + q)) hx hb hK hW rfl (by omega) (show (20 * h) + (M - r + q) < 80 from by omega) dX8_mend_89 ?_
                  refine z_top (show τd 5 ((20 * h) + (M - r + q)) = τ 5 ((20 * h) + (M - r + q)) from by rw [hdo 5 (by decide)]) ?_
                  have r21 : (0 : Int) ≤ τ 5 ((20 * h) + (M - r + q)) ∧ τ 5 ((20 * h) + (M - r + q)) ≤ 100000 := hI 5 ((20 * h) + (M - r + q))
                  refine lv_iload hx hb dX8_mend_90 (lv_at hl 1 rfl) ?_
                  refine z_icmp_le (tgt := 128) hx hb (by omega) (by omega) dX8_mend_92 (by decide) (fun c22 => ?_) (fun c22 => ?_)
                  · refine z_iinc (k := 0) (lv' := [(6, .int (iI (((M : Int) - (r : Int) + (q : Int)) + 1))), (5, .int (iI (τ 5 ((20 * h) + (M - (r + 1)))))), (3, .int (iI (msS (mkF τ h) (enO τ h) M r))), (4, .int (iI ((M : Int) - ((r : Int) + 1)))), (2, .int (iI (enO τ h))), (0, .ref (ad 0)), (1, .int (iI ((h : Int))))]) hx hb dX8_mend_128 hl rfl (by decide) rfl (fun ls hl => ?_)
                    refine lv_goto (tgt := 61) hx hb dX8_mend_131 (by decide) ?_
                    exact ih61 (q + 1) (((M : Int) - (r : Int) + (q : Int)) + 1) τd (by omega) (by omega) (by omega) hdo hdL (by rw [if_neg hne]; show τd 6 (M - (r + 1)) = 1 + max (mxK (lgS (mkF τ h) (enO τ h) M r) (mkF τ h) (mkF τ h (M - (r + 1))) (M - r) q) (if mkF τ h (M - (r + 1)) < mkF τ h (M - r + q) then lgS (mkF τ h) (enO τ h) M r (M - r + q) else 0); rw [if_neg (show ¬ mkF τ h (M - (r + 1)) < mkF τ h (M - r + q) from (by show ¬ τ 5 (20 * h + (M - (r + 1))) < τ 5 (20 * h + (M - r + q)); omega))]; omega) _ _ hW hS hz hR ls (lv_sub hl [0, 1, 2, 3, 4, 5, 6] rfl)
                  · refine lv_aload_n hx hb dX8_mend_95 rfl (lv_at hl 5 rfl) ?_
                    refine m_get hx hb hts hin8 hown hK hW 6 (by decide) (hts _ (by decide +kernel)) (v := .ref (ad 6)) rfl dX8_mend_96 ?_
                    refine lv_iload hx hb dX8_mend_99 (lv_at hl 0 rfl) ?_
                    refine m_ald (d := 6) (j := M - r + q) hx hb hK hW rfl (by omega) (show M - r + q < 20 from by omega) dX8_mend_101 ?_
                    have r23 : (-2147483648 : Int) ≤ τd 6 (M - r + q) ∧ τd 6 (M - r + q) ≤ 2147483647 := hR 6 (M - r + q)
                    refine lv_aload_n hx hb dX8_mend_102 rfl (lv_at hl 5 rfl) ?_
                    refine m_get hx hb hts hin8 hown hK hW 6 (by decide) (hts _ (by decide +kernel)) (v := .ref (ad 6)) rfl dX8_mend_103 ?_
                    refine lv_iload hx hb dX8_mend_106 (lv_at hl 3 rfl) ?_
                    refine m_ald (d := 6) (j := M - (r + 1)) hx hb hK hW rfl (by omega) (show M - (r + 1) < 20 from by omega) dX8_mend_108 ?_
                    have r24 : (-2147483648 : Int) ≤ τd 6 (M - (r + 1)) ∧ τd 6 (M - (r + 1)) ≤ 2147483647 := hR 6 (M - (r + 1))
                    refine z_icmp_lt (tgt := 128) hx hb (by omega) (by omega) dX8_mend_109 (by decide) (fun c25 => ?_) (fun c25 => ?_)
                    · refine z_iinc (k := 0) (lv' := [(6, .int (iI (((M : Int) - (r : Int) + (q : Int)) + 1))), (5, .int (iI (τ 5 ((20 * h) + (M - (r + 1)))))), (3, .int (iI (msS (mkF τ h) (enO τ h) M r))), (4, .int (iI ((M : Int) - ((r : Int) + 1)))), (2, .int (iI (enO τ h))), (0, .ref (ad 0)), (1, .int (iI ((h : Int))))]) hx hb dX8_mend_128 hl rfl (by decide) rfl (fun ls hl => ?_)
                      refine lv_goto (tgt := 61) hx hb dX8_mend_131 (by decide) ?_
                      exact ih61 (q + 1) (((M : Int) - (r : Int) + (q : Int)) + 1) τd (by omega) (by omega) (by omega) hdo hdL (by rw [if_neg hne]; show τd 6 (M - (r + 1)) = 1 + max (mxK (lgS (mkF τ h) (enO τ h) M r) (mkF τ h) (mkF τ h (M - (r + 1))) (M - r) q) (if mkF τ h (M - (r + 1)) < mkF τ h (M - r + q) then lgS (mkF τ h) (enO τ h) M r (M - r + q) else 0); rw [if_pos (show mkF τ h (M - (r + 1)) < mkF τ h (M - r + q) from (by show τ 5 (20 * h + (M - (r + 1))) < τ 5 (20 * h + (M - r + q)); omega))]; omega) _ _ hW hS hz hR ls (lv_sub hl [0, 1, 2, 3, 4, 5, 6] rfl)
                    · refine lv_aload_n hx hb dX8_mend_112 rfl (lv_at hl 5 rfl) ?_
                      refine m_get hx hb hts hin8 hown hK hW 6 (by decide) (hts _ (by decide +kernel)) (v := .ref (ad 6)) rfl dX8_mend_113 ?_
                      refine lv_iload hx hb dX8_mend_116 (lv_at hl 3 rfl) ?_
                      refine lv_aload_n hx hb dX8_mend_118 rfl (lv_at hl 5 rfl) ?_
                      refine m_get hx hb hts hin8 hown hK hW 6 (by decide) (hts _ (by decide +kernel)) (v := .ref (ad 6)) rfl dX8_mend_119 ?_
                      refine lv_iload hx hb dX8_mend_122 (lv_at hl 0 rfl) ?_
                      refine m_ald (d := 6) (j := M - r + q) hx hb hK hW rfl (by omega) (show M - r + q < 20 from by omega) dX8_mend_124 ?_
                      have r26 : (-2147483648 : Int) ≤ τd 6 (M - r + q) ∧ τd 6 (M - r + q) ≤ 2147483647 := hR 6 (M - r + q)
                      refine z_iconst hx hb dX8_mend_125 ?_
                      refine z_iadd hx hb dX8_mend_126 ?_
                      refine m_ast (d := 6) (j := M - (r + 1)) (v := (τd 6 (M - r + q)) + 1) hx hb hK hW hS hz rfl (by omega) (show M - (r + 1) < 20 from by omega) dX8_mend_127 (fun H locs hW hS hz => ?_)
                      have hR := Rng.tu (c := 6) (i := M - (r + 1)) (v := (τd 6 (M - r + q)) + 1) hR (show (-2147483648 : Int) ≤ ((τd 6 (M - r + q)) + 1) from by omega) (show ((τd 6 (M - r + q)) + 1) ≤ 2147483647 from by omega)
                      refine z_iinc (k := 0) (lv' := [(6, .int (iI (((M : Int) - (r : Int) + (q : Int)) + 1))), (5, .int (iI (τ 5 ((20 * h) + (M - (r + 1)))))), (3, .int (iI (msS (mkF τ h) (enO τ h) M r))), (4, .int (iI ((M : Int) - ((r : Int) + 1)))), (2, .int (iI (enO τ h))), (0, .ref (ad 0)), (1, .int (iI ((h : Int))))]) hx hb dX8_mend_128 hl rfl (by decide) rfl (fun ls hl => ?_)
                      refine lv_goto (tgt := 61) hx hb dX8_mend_131 (by decide) ?_
                      exact ih61 (q + 1) (((M : Int) - (r : Int) + (q : Int)) + 1) (tu τd 6 (M - (r + 1)) ((τd 6 (M - r + q)) + 1)) (by omega) (by omega) (by omega) (fun c hc => by rw [tu_n hc]; exact hdo c hc) (fun j h1 h2 => by rw [tu_c, fu_n (by omega)]; exact hdL j h1 h2) (by rw [if_neg hne, tu_s]; show τd 6 (M - r + q) + 1 = 1 + max (mxK (lgS (mkF τ h) (enO τ h) M r) (mkF τ h) (mkF τ h (M - (r + 1))) (M - r) q) (if mkF τ h (M - (r + 1)) < mkF τ h (M - r + q) then lgS (mkF τ h) (enO τ h) M r (M - r + q) else 0); rw [if_pos (show mkF τ h (M - (r + 1)) < mkF τ h (M - r + q) from (by show τ 5 (20 * h + (M - (r + 1))) < τ 5 (20 * h + (M - r + q)); omega))]; omega) _ _ hW hS hz hR ls (lv_sub hl [0, 1, 2, 3, 4, 5, 6] rfl)
          exact lp61 (r + 1) 0 (((M : Int) - ((r : Int) + 1)) + 1) (tu τc 6 (M - (r + 1)) (if enO τ h < mkF τ h (M - (r + 1)) then 0 else 1 + mxK (lgS (mkF τ h) (enO τ h) M r) (mkF τ h) (mkF τ h (M - (r + 1))) (M - r) 0)) (by omega) (by omega) (by omega) (fun c hc => by rw [tu_n hc]; exact ho c hc) (fun j h1 h2 => by rw [tu_c, fu_n (by omega)]; exact hL j h1 h2) tu_s _ _ hW hS hz hR ls (lv_sub hl [0, 1, 2, 3, 4, 5, 6] rfl)
        refine lv_iload hx hb dX8_mend_43 (lv_at hl 0 rfl) ?_
        refine lv_iload_n hx hb dX8_mend_45 rfl (lv_at hl 3 rfl) ?_
        refine z_icmp_le (tgt := 53) hx hb (by omega) (by omega) dX8_mend_46 (by decide) (fun c27 => ?_) (fun c27 => ?_)
        · refine z_iconst hx hb dX8_mend_53 ?_
          exact jn54 1 (if_neg (show ¬ enO τ h < τ 5 (20 * h + (M - (r + 1))) by omega)).symm ls (lv_sub hl [0, 1, 2, 3, 4, 5] rfl)
        · refine z_iconst hx hb dX8_mend_49 ?_
          refine lv_goto (tgt := 54) hx hb dX8_mend_50 (by decide) ?_
          exact jn54 0 (if_pos (show enO τ h < τ 5 (20 * h + (M - (r + 1))) by omega)).symm ls (lv_sub hl [0, 1, 2, 3, 4, 5] rfl)
  exact lp18 (M + 1) 0 0 ((τ 4 h) - 1) τ rfl (by omega) (by omega) (by omega) (fun _ _ => rfl) (fun j h1 h2 => absurd h2 (by omega)) _ _ hW hS hz hR ls (lv_sub hl [1, 0, 2, 3, 4] rfl)
def spWrong (τ : Tau) (a : Int) : Int := if 0 ≤ a ∧ a < τ 0 0 then τ 4 a.toNat - meO τ a.toNat else -101
def spIsW (τ : Tau) (a k : Int) : Int := if ¬ ((0 ≤ a ∧ a < τ 0 0) ∧ (0 ≤ k ∧ k < τ 4 a.toNat)) then -101 else if rtP τ a.toNat k.toNat then 0 else 1
theorem rt_0 {τ : Tau} (hR : Rng τ) {h k : Nat} (h2 : rtP τ h k) : 0 < meO τ h := by
  have h1 := h2.1
  have : ∀ k : Nat, (chS (LG τ h) (mkF τ h) (meO τ h) k).1 ≤ meO τ h := by
    intro k
    induction k with
    | zero => exact Int.le_refl _
    | succ k ih =>
      by_cases q : chP (LG τ h) (mkF τ h) (chS (LG τ h) (mkF τ h) (meO τ h) k) k
      · rw [ch_t q]; show (chS (LG τ h) (mkF τ h) (meO τ h) k).1 - 1 ≤ _; omega
      · rw [ch_f q]; exact ih
  have := this k
  omega

set_option maxHeartbeats 4000000 in
set_option maxRecDepth 100000 in
theorem c8_wrong (l : Launch) (D : va_G) (cI cZ : ClassId) (ad : Nat → Nat) (τ : Tau) (hI : Rng τ) (a : Int) (h_a : I32 a)  : Met l yX8_wrong wsX8_wrong { frames := 2, cells := 0, slots := 0, locals := 50 } (mPc D cI cZ ad τ [.ref (ad 0), .int (iI (a))]) (mX D cI cZ ad (some (.int (iI (spWrong τ a)))) (Sc τ)) 0 0 (MA ad) := by
  refine m_start (by decide) rfl (Nat.le_of_ble_eq_true rfl) ?_
  intro p e s m below meth c hx hb hr hlocks hml hts hown hW hK ls hl
  have hin8 : ∀ w ∈ wsX80, w ∈ wsX8_wrong := by decide +kernel
  have hS : va_S (MA ad) s.heap s.heap [] := va_S.rf
  have hz : s.heap.size = s.heap.size := rfl
  have hR : Rng τ := hI
  have hl : lv_has ls 2 [(0, .ref (ad 0)), (1, .int (iI (a)))] := hl
  refine lv_aload_n hx hb dX8_wrong_0 rfl (lv_at hl 0 rfl) ?_
  refine lv_iload_n hx hb dX8_wrong_1 rfl (lv_at hl 1 rfl) ?_
  refine m_call (n := 1) (As := [.int (iI (a))]) (rest := []) hx hb hml hts hown hK hW (c8_isHole l D cI cZ ad τ hI a (by omega)) gX8_wrong_X8_isHole rfl rfl rfl (by decide +kernel) ⟨by decide, by decide⟩ rfl hl.1 rfl (Nat.le_of_ble_eq_true rfl) ⟨Nat.zero_le _, Nat.zero_le _⟩ dX8_wrong_2 ?_
  have r1 := (show (0 : Int) ≤ τ 0 0 ∧ τ 0 0 ≤ 4 from hI 0 0)
  refine z_if_eqB (tgt := 23) hx hb dX8_wrong_5 (by decide) (fun c2 => ?_) (fun c2 => ?_)
  · refine z_bipush hx hb dX8_wrong_23 (by decide) ?_
    exact m_xret hx hb hr hlocks (⟨Sc.rf hI, hW⟩) hS hz (by unfold spWrong; repeat (first | rw [if_pos (by first | assumption | omega)] | rw [if_neg (by first | assumption | omega | (intro hk; exact hk (by assumption)))])) dX8_wrong_25
  · have hme := me_r hI a.toNat
    refine lv_aload_n hx hb dX8_wrong_8 rfl (lv_at hl 0 rfl) ?_
    refine m_get hx hb hts hin8 hown hK hW 4 (by decide) (hts _ (by decide +kernel)) (v := .ref (ad 4)) rfl dX8_wrong_9 ?_
    refine lv_iload_n hx hb dX8_wrong_12 rfl (lv_at hl 1 rfl) ?_
    refine m_ald (d := 4) (j := a.toNat) hx hb hK hW rfl (by omega) (show a.toNat < 4 from by omega) dX8_wrong_13 ?_
    have r3 : (0 : Int) ≤ τ 4 a.toNat ∧ τ 4 a.toNat ≤ 20 := hI 4 a.toNat
    refine lv_aload_n hx hb dX8_wrong_14 rfl (lv_at hl 0 rfl) ?_
    refine lv_iload_n hx hb dX8_wrong_15 rfl (lv_at hl 1 rfl) ?_
    refine m_callX (n := 1) (As := [.int (iI (a))]) (rest := [.int (iI (τ 4 a.toNat))]) hx hb hml hts hown hK hW hS hz (c8_mend l D cI cZ ad τ hI a.toNat a (by omega) (by omega)) gX8_wrong_X8_mend rfl rfl rfl (by decide +kernel) ⟨by decide, by decide⟩ rfl hl.1 rfl (Nat.le_of_ble_eq_true rfl) ⟨Nat.zero_le _, Nat.zero_le _⟩ dX8_wrong_16 (fun τ2 hq H locs hW hS hz => ?_)
    refine z_isub hx hb dX8_wrong_19 ?_
    refine lv_goto (tgt := 25) hx hb dX8_wrong_20 (by decide) ?_
    exact m_xret hx hb hr hlocks (⟨⟨fun c h6 h7 _ => hq.1 c h6 h7, hq.2.1⟩, hW⟩) hS hz (by unfold spWrong; repeat (first | rw [if_pos (by first | assumption | omega)] | rw [if_neg (by first | assumption | omega | (intro hk; exact hk (by assumption)))])) dX8_wrong_25
set_option maxHeartbeats 4000000 in
set_option maxRecDepth 100000 in
theorem c8_isWrong (l : Launch) (D : va_G) (cI cZ : ClassId) (ad : Nat → Nat) (τ : Tau) (hI : Rng τ) (a : Int) (h_a : I32 a) (k : Int) (h_k : I32 k)  : Met l yX8_isWrong wsX8_isWrong { frames := 2, cells := 0, slots := 0, locals := 50 } (mPc D cI cZ ad τ [.ref (ad 0), .int (iI (a)), .int (iI (k))]) (mX D cI cZ ad (some (.int (iI (spIsW τ a k)))) (Sc τ)) 0 0 (MA ad) := by
  refine m_start (by decide) rfl (Nat.le_of_ble_eq_true rfl) ?_
  intro p e s m below meth c hx hb hr hlocks hml hts hown hW hK ls hl
  have hin8 : ∀ w ∈ wsX80, w ∈ wsX8_isWrong := by decide +kernel
  have hS : va_S (MA ad) s.heap s.heap [] := va_S.rf
  have hz : s.heap.size = s.heap.size := rfl
  have hR : Rng τ := hI
  have hl : lv_has ls 4 [(0, .ref (ad 0)), (1, .int (iI (a))), (2, .int (iI (k)))] := hl
  refine lv_aload_n hx hb dX8_isWrong_0 rfl (lv_at hl 0 rfl) ?_
  refine lv_iload_n hx hb dX8_isWrong_1 rfl (lv_at hl 1 rfl) ?_
  refine m_call (n := 1) (As := [.int (iI (a))]) (rest := []) hx hb hml hts hown hK hW (c8_isHole l D cI cZ ad τ hI a (by omega)) gX8_isWrong_X8_isHole rfl rfl rfl (by decide +kernel) ⟨by decide, by decide⟩ rfl hl.1 rfl (Nat.le_of_ble_eq_true rfl) ⟨Nat.zero_le _, Nat.zero_le _⟩ dX8_isWrong_2 ?_
  have r1 := (show (0 : Int) ≤ τ 0 0 ∧ τ 0 0 ≤ 4 from hI 0 0)
  refine z_if_eqB (tgt := 26) hx hb dX8_isWrong_5 (by decide) (fun c2 => ?_) (fun c2 => ?_)
  · refine z_bipush hx hb dX8_isWrong_26 (by decide) ?_
    exact m_xret hx hb hr hlocks (⟨Sc.rf hI, hW⟩) hS hz (by unfold spIsW; repeat (first | rw [if_pos (by first | assumption | omega)] | rw [if_neg (by first | assumption | omega | (intro hk; exact hk (by assumption)))])) dX8_isWrong_28
  · refine lv_iload_n hx hb dX8_isWrong_8 rfl (lv_at hl 2 rfl) ?_
    refine z_i2l hx hb (by omega) dX8_isWrong_9 ?_
    refine z_lconst (n := 0) hx hb (by decide) dX8_isWrong_10 ?_
    refine lv_aload_n hx hb dX8_isWrong_11 rfl (lv_at hl 0 rfl) ?_
    refine m_get hx hb hts hin8 hown hK hW 4 (by decide) (hts _ (by decide +kernel)) (v := .ref (ad 4)) rfl dX8_isWrong_12 ?_
    refine lv_iload_n hx hb dX8_isWrong_15 rfl (lv_at hl 1 rfl) ?_
    refine m_ald (d := 4) (j := a.toNat) hx hb hK hW rfl (by omega) (show a.toNat < 4 from by omega) dX8_isWrong_16 ?_
    have r3 : (0 : Int) ≤ τ 4 a.toNat ∧ τ 4 a.toNat ≤ 20 := hI 4 a.toNat
    refine z_iconst hx hb dX8_isWrong_17 ?_
    refine z_isub hx hb dX8_isWrong_18 ?_
    refine z_i2l hx hb (by omega) dX8_isWrong_19 ?_
    refine s_call (n := 3) (As := [.long (lL (k)), .long (lL (0)), .long (lL ((τ 4 a.toNat) - 1))]) (rest := []) hx hb hml hts hown (c8_in l k (by omega) 0 (by omega) ((τ 4 a.toNat) - 1) (by omega)) gX8_isWrong_X8_in rfl rfl rfl (by decide +kernel) ⟨by decide, by decide⟩ rfl hl.1 rfl (Nat.le_of_ble_eq_true rfl) ⟨Nat.zero_le _, Nat.zero_le _⟩ dX8_isWrong_20 ?_
    refine z_if_neB (tgt := 29) hx hb dX8_isWrong_23 (by decide) (fun c4 => ?_) (fun c4 => ?_)
    · have hme := me_r hI a.toNat
      refine lv_aload_n hx hb dX8_isWrong_29 rfl (lv_at hl 0 rfl) ?_
      refine lv_iload_n hx hb dX8_isWrong_30 rfl (lv_at hl 1 rfl) ?_
      refine m_callX (n := 1) (As := [.int (iI (a))]) (rest := []) hx hb hml hts hown hK hW hS hz (c8_mend l D cI cZ ad τ hI a.toNat a (by omega) (by omega)) gX8_isWrong_X8_mend rfl rfl rfl (by decide +kernel) ⟨by decide, by decide⟩ rfl hl.1 rfl (Nat.le_of_ble_eq_true rfl) ⟨Nat.zero_le _, Nat.zero_le _⟩ dX8_isWrong_31 (fun τ2 hq H locs hW hS hz => ?_)
      have hR := hq.2.1
      have hq3 := hq.2.2 k.toNat (by omega)
      refine lv_istore_n (lv' := [(3, .int (iI (meO τ a.toNat))), (0, .ref (ad 0)), (1, .int (iI (a))), (2, .int (iI (k)))]) hx hb dX8_isWrong_34 rfl hl (by decide) rfl (fun ls hl => ?_)
      refine lv_iload_n hx hb dX8_isWrong_35 rfl (lv_at hl 0 rfl) ?_
      refine z_if_le (tgt := 52) hx hb (by omega) dX8_isWrong_36 (by decide) (fun c5 => ?_) (fun c5 => ?_)
      · refine z_iconst hx hb dX8_isWrong_52 ?_
        exact m_xret hx hb hr hlocks (⟨⟨fun c h6 h7 _ => hq.1 c h6 h7, hq.2.1⟩, hW⟩) hS hz (by unfold spIsW; rw [if_neg (by omega)]; rw [if_neg (fun hk => by have := rt_0 hI hk; omega)]) dX8_isWrong_53
      · refine lv_aload_n hx hb dX8_isWrong_39 rfl (lv_at hl 1 rfl) ?_
        refine m_get hx hb hts hin8 hown hK hW 7 (by decide) (hts _ (by decide +kernel)) (v := .ref (ad 7)) rfl dX8_isWrong_40 ?_
        refine lv_iload_n hx hb dX8_isWrong_43 rfl (lv_at hl 3 rfl) ?_
        refine m_zld (d := 7) (j := k.toNat) hx hb hK hW rfl (by omega) (show k.toNat < 20 from by omega) dX8_isWrong_44 ?_
        have r6 : (0 : Int) ≤ τ2 7 k.toNat ∧ τ2 7 k.toNat ≤ 1 := hR 7 k.toNat
        refine z_if_eq (tgt := 52) hx hb (by omega) dX8_isWrong_45 (by decide) (fun c7 => ?_) (fun c7 => ?_)
        · refine z_iconst hx hb dX8_isWrong_52 ?_
          exact m_xret hx hb hr hlocks (⟨⟨fun c h6 h7 _ => hq.1 c h6 h7, hq.2.1⟩, hW⟩) hS hz (by unfold spIsW; rw [if_neg (by omega)]; rw [if_neg (fun hk => by rw [bI_t hk] at hq3; omega)]) dX8_isWrong_53
        · refine z_iconst hx hb dX8_isWrong_48 ?_
          refine lv_goto (tgt := 53) hx hb dX8_isWrong_49 (by decide) ?_
          exact m_xret hx hb hr hlocks (⟨⟨fun c h6 h7 _ => hq.1 c h6 h7, hq.2.1⟩, hW⟩) hS hz (by unfold spIsW; rw [if_neg (by omega)]; rw [if_pos (Classical.byContradiction fun hk => by rw [bI_f hk] at hq3; omega)]) dX8_isWrong_53
    · refine z_bipush hx hb dX8_isWrong_26 (by decide) ?_
      exact m_xret hx hb hr hlocks (⟨Sc.rf hI, hW⟩) hS hz (by unfold spIsW; repeat (first | rw [if_pos (by first | assumption | omega)] | rw [if_neg (by first | assumption | omega | (intro hk; exact hk (by assumption)))])) dX8_isWrong_28
