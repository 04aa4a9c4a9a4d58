/-! what holds of every state is kept by every call -/
theorem sm_fu {f g : Nat → Int} {j : Nat} {d : Int} (hj : g j = f j + d) (hn : ∀ k, k ≠ j → g k = f k) : ∀ {n : Nat}, j < n → sm g n = sm f n + d
  | 0, h => absurd h (Nat.not_lt_zero j)
  | n + 1, h => by
    rw [sm_s, sm_s]
    by_cases e : n = j
    · rw [e, hj, sm_cong (n := j) (fun k hk => hn k (by omega))]
      omega
    · rw [hn n e, sm_fu hj hn (show j < n by omega)]
      omega
def iA (τ : Tau) : Prop := ∀ h : Nat, τ 27 h = enO τ h
def iB (τ : Tau) : Prop := τ 17 0 = sm (fun s => 4 - τ 16 s) (τ 12 0).toNat
def iC (τ : Tau) : Prop := ∀ b q : Nat, q < 16 → (q : Int) < τ 19 b → (τ 20 (16 * b + q) = 3 → τ 21 (16 * b + q) < q) ∧ (τ 20 (16 * b + q) = 0 → τ 21 (16 * b + q) < τ 12 0)
def iD (τ : Tau) : Prop := ∀ g k : Nat, k < 20 → (k : Int) < τ 8 g → frO τ g k < τ 9 (20 * g + k)
def iE (τ : Tau) : Prop := ∀ q : Nat, τ 23 q = 0 → τ 24 q = 0
def zA (τ : Tau) : Prop := ∀ h : Nat, τ 0 0 ≤ h → τ 1 h = 0 ∧ τ 4 h = 0 ∧ τ 27 h = 0 ∧ ∀ k, k < 20 → τ 2 (20 * h + k) = 0 ∧ τ 3 (20 * h + k) = 0 ∧ τ 5 (20 * h + k) = 0
def zB (τ : Tau) : Prop := ∀ g : Nat, 2 * τ 0 0 ≤ g → τ 8 g = 0 ∧ ∀ k, k < 20 → τ 9 (20 * g + k) = 0 ∧ τ 10 (20 * g + k) = 0
def zC (τ : Tau) : Prop := ∀ b : Nat, τ 18 0 ≤ b → τ 19 b = 0
def zD (τ : Tau) : Prop := ∀ b q : Nat, q < 16 → τ 19 b ≤ q → τ 23 (16 * b + q) = 0 ∧ τ 24 (16 * b + q) = 0
def IZ (τ : Tau) : Prop := Rng τ ∧ iA τ ∧ iB τ ∧ iC τ ∧ iD τ ∧ iE τ ∧ zA τ ∧ zB τ ∧ zC τ ∧ zD τ
theorem IZ.inv {τ : Tau} (h : IZ τ) : Inv τ := ⟨h.1, h.2.1, h.2.2.1, h.2.2.2.1, h.2.2.2.2.1, h.2.2.2.2.2.1⟩
theorem IZ.zer {τ : Tau} (h : IZ τ) : Zer τ := ⟨h.2.2.2.2.2.2.1, h.2.2.2.2.2.2.2.1, h.2.2.2.2.2.2.2.2.1, h.2.2.2.2.2.2.2.2.2⟩
theorem iA_c {τ τ2 : Tau} (h : iA τ) (e1 : τ2 27 = τ 27) (e2 : τ2 1 = τ 1) (e3 : τ2 2 = τ 2) : iA τ2 := by
  unfold iA enO at *
  rw [e1, e2, e3]
  exact h
theorem iB_c {τ τ2 : Tau} (h : iB τ) (e1 : τ2 17 = τ 17) (e2 : τ2 16 = τ 16) (e3 : τ2 12 = τ 12) : iB τ2 := by
  unfold iB at *
  rw [e1, e2, e3]
  exact h
theorem iC_c {τ τ2 : Tau} (h : iC τ) (e1 : τ2 19 = τ 19) (e2 : τ2 20 = τ 20) (e3 : τ2 21 = τ 21) (e4 : τ2 12 = τ 12) : iC τ2 := by
  unfold iC at *
  rw [e1, e2, e3, e4]
  exact h
theorem iD_c {τ τ2 : Tau} (h : iD τ) (e1 : τ2 8 = τ 8) (e2 : τ2 9 = τ 9) : iD τ2 := by
  unfold iD frO at *
  rw [e1, e2]
  exact h
theorem iE_c {τ τ2 : Tau} (h : iE τ) (e1 : τ2 23 = τ 23) (e2 : τ2 24 = τ 24) : iE τ2 := by
  unfold iE at *
  rw [e1, e2]
  exact h
theorem zA_c {τ τ2 : Tau} (h : zA τ) (e1 : τ2 0 = τ 0) (e2 : τ2 1 = τ 1) (e3 : τ2 4 = τ 4) (e4 : τ2 27 = τ 27) (e5 : τ2 2 = τ 2) (e6 : τ2 3 = τ 3) (e7 : τ2 5 = τ 5) : zA τ2 := by
  unfold zA at *
  rw [e1, e2, e3, e4, e5, e6, e7]
  exact h
theorem zB_c {τ τ2 : Tau} (h : zB τ) (e1 : τ2 0 = τ 0) (e2 : τ2 8 = τ 8) (e3 : τ2 9 = τ 9) (e4 : τ2 10 = τ 10) : zB τ2 := by
  unfold zB at *
  rw [e1, e2, e3, e4]
  exact h
theorem zC_c {τ τ2 : Tau} (h : zC τ) (e1 : τ2 18 = τ 18) (e2 : τ2 19 = τ 19) : zC τ2 := by
  unfold zC at *
  rw [e1, e2]
  exact h
theorem zD_c {τ τ2 : Tau} (h : zD τ) (e1 : τ2 19 = τ 19) (e2 : τ2 23 = τ 23) (e3 : τ2 24 = τ 24) : zD τ2 := by
  unfold zD at *
  rw [e1, e2, e3]
  exact h
section KP
variable {τ : Tau}
theorem IZ.hole (h : IZ τ) : IZ (stHole τ) := by
  unfold stHole
  split
  · rename_i hk
    obtain ⟨r, a, b, c, d, e, f, g, i, j⟩ := h
    have q : (0 : Int) ≤ τ 0 0 ∧ τ 0 0 ≤ 4 := r 0 0
    refine ⟨r.tu (c := 0) (show (0 : Int) ≤ τ 0 0 + 1 by omega) (show τ 0 0 + 1 ≤ 4 by omega), iA_c a rfl rfl rfl, iB_c b rfl rfl rfl, iC_c c rfl rfl rfl rfl, iD_c d rfl rfl, iE_c e rfl rfl, fun x hx => ?_, fun x hx => ?_, zC_c i rfl rfl, zD_c j rfl rfl rfl⟩
    · rw [tu_s] at hx
      exact f x (by omega)
    · rw [tu_s] at hx
      exact g x (by omega)
  · exact h
theorem IZ.batch (h : IZ τ) : IZ (stBatch τ) := by
  unfold stBatch
  split
  · rename_i hk
    obtain ⟨r, a, b, c, d, e, f, g, i, j⟩ := h
    have q : (0 : Int) ≤ τ 18 0 ∧ τ 18 0 ≤ 6 := r 18 0
    refine ⟨r.tu (c := 18) (show (0 : Int) ≤ τ 18 0 + 1 by omega) (show τ 18 0 + 1 ≤ 6 by omega), iA_c a rfl rfl rfl, iB_c b rfl rfl rfl, iC_c c rfl rfl rfl rfl, iD_c d rfl rfl, iE_c e rfl rfl, zA_c f rfl rfl rfl rfl rfl rfl rfl, zB_c g rfl rfl rfl rfl, fun x hx => ?_, zD_c j rfl rfl rfl⟩
    rw [tu_s] at hx
    exact i x (by omega)
  · exact h
theorem IZ.run1 {h : Nat} {u v : Int} (q : IZ τ) (hh : (h : Int) < τ 0 0) (hu : 1 ≤ u ∧ u ≤ 1000) (hv : 0 ≤ v ∧ v ≤ 1000) (hr : ¬ τ 1 h = 20) : IZ (arT τ h u v) := by
  obtain ⟨r, a, b, c, d, e, f, g, i, j⟩ := q
  have q1 : (0 : Int) ≤ τ 1 h ∧ τ 1 h ≤ 20 := r 1 h
  have q2 : (0 : Int) ≤ τ 27 h ∧ τ 27 h ≤ 20000 := r 27 h
  have q3 := en_b r h
  have q4 : τ 27 h = enO τ h := a h
  refine ⟨(((r.tu (c := 2) (show (0 : Int) ≤ u by omega) (show u ≤ 1000 by omega)).tu (c := 3) (show (0 : Int) ≤ v by omega) (show v ≤ 1000 by omega)).tu (c := 1) (show (0 : Int) ≤ τ 1 h + 1 by omega) (show τ 1 h + 1 ≤ 20 by omega)).tu (c := 27) (show (0 : Int) ≤ τ 27 h + u by omega) (show τ 27 h + u ≤ 20000 by omega), fun x => ?_, iB_c b rfl rfl rfl, iC_c c rfl rfl rfl rfl, iD_c d rfl rfl, iE_c e rfl rfl, fun x hx => ?_, zB_c g rfl rfl rfl rfl, zC_c i rfl rfl, zD_c j rfl rfl rfl⟩
  · by_cases ex : x = h
    · subst ex
      have h9 := en_tu (h := x) (u := u) (v := v) r
      have h8 : enO (arT τ x u v) x = enO τ x + u := h9
      rw [h8, ← q4]
      exact tu_s
    · have e1 : arT τ h u v 1 x = τ 1 x := (show fu (τ 1) h (τ 1 h + 1) x = τ 1 x from fu_n ex)
      have e2 : arT τ h u v 27 x = τ 27 x := (show fu (τ 27) h (τ 27 h + u) x = τ 27 x from fu_n ex)
      have q5 : (0 : Int) ≤ τ 1 x ∧ τ 1 x ≤ 20 := r 1 x
      rw [e2, a x]
      unfold enO
      rw [e1]
      exact sm_cong (fun k hk => (show τ 2 (20 * x + k) = fu (τ 2) (20 * h + (τ 1 h).toNat) u (20 * x + k) from (fu_n (by omega)).symm))
  · have hx : τ 0 0 ≤ (x : Int) := hx
    have f1 := f x hx
    refine ⟨(show fu (τ 1) h (τ 1 h + 1) x = 0 from (fu_n (by omega)).trans f1.1), f1.2.1, (show fu (τ 27) h (τ 27 h + u) x = 0 from (fu_n (by omega)).trans f1.2.2.1), fun k hk => ⟨(show fu (τ 2) (20 * h + (τ 1 h).toNat) u (20 * x + k) = 0 from (fu_n (by omega)).trans (f1.2.2.2 k hk).1), (show fu (τ 3) (20 * h + (τ 1 h).toNat) v (20 * x + k) = 0 from (fu_n (by omega)).trans (f1.2.2.2 k hk).2.1), (f1.2.2.2 k hk).2.2⟩⟩
theorem IZ.run (q : IZ τ) {a u v : Int} : IZ (stRun τ a u v) := by
  unfold stRun
  split
  · rename_i hk
    exact IZ.run1 q (by omega) (by omega) (by omega) hk.2.2.2
  · exact q
theorem IZ.mark (q : IZ τ) {x u : Int} : IZ (stMark τ x u) := by
  unfold stMark
  split
  · rename_i hk
    obtain ⟨r, a, b, c, d, e, f, g, i, j⟩ := q
    have q1 : (0 : Int) ≤ τ 4 x.toNat ∧ τ 4 x.toNat ≤ 20 := r 4 _
    have hk3 := hk.2.2
    refine ⟨(r.tu (c := 5) (show (0 : Int) ≤ u by omega) (show u ≤ 100000 by omega)).tu (c := 4) (show (0 : Int) ≤ τ 4 x.toNat + 1 by omega) (show τ 4 x.toNat + 1 ≤ 20 by omega), iA_c a rfl rfl rfl, iB_c b rfl rfl rfl, iC_c c rfl rfl rfl rfl, iD_c d rfl rfl, iE_c e rfl rfl, fun y hy => ?_, zB_c g rfl rfl rfl rfl, zC_c i rfl rfl, zD_c j rfl rfl rfl⟩
    have hy : τ 0 0 ≤ (y : Int) := hy
    have f1 := f y hy
    refine ⟨f1.1, (show fu (τ 4) x.toNat (τ 4 x.toNat + 1) y = 0 from (fu_n (by omega)).trans f1.2.1), f1.2.2.1, fun k hk => ⟨(f1.2.2.2 k hk).1, (f1.2.2.2 k hk).2.1, (show fu (τ 5) (20 * x.toNat + (τ 4 x.toNat).toNat) u (20 * y + k) = 0 from (fu_n (by omega)).trans (f1.2.2.2 k hk).2.2)⟩⟩
  · exact q
theorem IZ.layer1 {g : Nat} {u v : Int} (q : IZ τ) (hg : (g : Int) < 2 * τ 0 0) (hu : frO τ g (τ 8 g).toNat < u) (hu2 : u ≤ 20000) (hv : 0 ≤ v ∧ v ≤ 9) (hr : ¬ τ 8 g = 20) : IZ (alT τ g u v) := by
  obtain ⟨r, a, b, c, d, e, f, z, i, j⟩ := q
  have q1 : (0 : Int) ≤ τ 8 g ∧ τ 8 g ≤ 20 := r 8 g
  have q2 := fr_r r g (τ 8 g).toNat
  refine ⟨((r.tu (c := 9) (show (0 : Int) ≤ u by omega) (show u ≤ 20000 by omega)).tu (c := 10) (show (0 : Int) ≤ v by omega) (show v ≤ 9 by omega)).tu (c := 8) (show (0 : Int) ≤ τ 8 g + 1 by omega) (show τ 8 g + 1 ≤ 20 by omega), iA_c a rfl rfl rfl, iB_c b rfl rfl rfl, iC_c c rfl rfl rfl rfl, fun x k hk hl => ?_, iE_c e rfl rfl, zA_c f rfl rfl rfl rfl rfl rfl rfl, fun x hx => ?_, zC_c i rfl rfl, zD_c j rfl rfl rfl⟩
  · show (if k = 0 then 0 else fu (τ 9) (20 * g + (τ 8 g).toNat) u (20 * x + (k - 1))) < fu (τ 9) (20 * g + (τ 8 g).toNat) u (20 * x + k)
    have hl : (k : Int) < fu (τ 8) g (τ 8 g + 1) x := hl
    by_cases ex : x = g
    · subst ex
      rw [fu_s] at hl
      by_cases ek : k = (τ 8 x).toNat
      · subst ek
        rw [fu_s]
        unfold frO at hu
        by_cases e0 : (τ 8 x).toNat = 0
        · rw [if_pos e0] at hu ⊢
          exact hu
        · rw [if_neg e0] at hu ⊢
          rw [fu_n (by omega)]
          exact hu
      · have h9 := d x k hk (by omega)
        rw [fu_n (show 20 * x + k ≠ 20 * x + (τ 8 x).toNat by omega)]
        unfold frO at h9
        by_cases e0 : k = 0
        · rw [if_pos e0] at h9 ⊢
          exact h9
        · rw [if_neg e0] at h9 ⊢
          rw [fu_n (by omega)]
          exact h9
    · rw [fu_n ex] at hl
      have h9 := d x k hk hl
      rw [fu_n (show 20 * x + k ≠ 20 * g + (τ 8 g).toNat by omega)]
      unfold frO at h9
      by_cases e0 : k = 0
      · rw [if_pos e0] at h9 ⊢
        exact h9
      · rw [if_neg e0] at h9 ⊢
        rw [fu_n (by omega)]
        exact h9
  · have hx : 2 * τ 0 0 ≤ (x : Int) := hx
    have f1 := z x hx
    exact ⟨(show fu (τ 8) g (τ 8 g + 1) x = 0 from (fu_n (by omega)).trans f1.1), fun k hk => ⟨(show fu (τ 9) (20 * g + (τ 8 g).toNat) u (20 * x + k) = 0 from (fu_n (by omega)).trans (f1.2 k hk).1), (show fu (τ 10) (20 * g + (τ 8 g).toNat) v (20 * x + k) = 0 from (fu_n (by omega)).trans (f1.2 k hk).2)⟩⟩
theorem IZ.layer (q : IZ τ) {a b u v : Int} : IZ (stLayer τ a b u v) := by
  unfold stLayer
  split
  · rename_i hk
    have h1 := en_r q.1 a.toNat
    exact IZ.layer1 q (by omega) hk.2.1.1 (by omega) (by omega) hk.2.2
  · exact q
theorem IZ.code (q : IZ τ) {x u : Int} : IZ (stCode τ x u) := by
  unfold stCode
  split
  · rename_i hk
    obtain ⟨r, a, b, c, d, e, f, g, i, j⟩ := q
    exact ⟨r.tu (c := 11) (show (0 : Int) ≤ u by omega) (show u ≤ 9 by omega), iA_c a rfl rfl rfl, iB_c b rfl rfl rfl, iC_c c rfl rfl rfl rfl, iD_c d rfl rfl, iE_c e rfl rfl, zA_c f rfl rfl rfl rfl rfl rfl rfl, zB_c g rfl rfl rfl rfl, zC_c i rfl rfl, zD_c j rfl rfl rfl⟩
  · exact q
theorem IZ.law (q : IZ τ) {x u : Int} : IZ (stLaw τ x u) := by
  unfold stLaw
  split
  · rename_i hk
    obtain ⟨r, a, b, c, d, e, f, g, i, j⟩ := q
    exact ⟨r.tu (c := 25) (show (0 : Int) ≤ u by omega) (show u ≤ 1000 by omega), iA_c a rfl rfl rfl, iB_c b rfl rfl rfl, iC_c c rfl rfl rfl rfl, iD_c d rfl rfl, iE_c e rfl rfl, zA_c f rfl rfl rfl rfl rfl rfl rfl, zB_c g rfl rfl rfl rfl, zC_c i rfl rfl, zD_c j rfl rfl rfl⟩
  · exact q
theorem IZ.sample (q : IZ τ) {x u v : Int} : IZ (stSam τ x u v) := by
  unfold stSam
  split
  · rename_i hk
    obtain ⟨r, a, b, c, d, e, f, g, i, j⟩ := q
    have q1 : (0 : Int) ≤ τ 12 0 ∧ τ 12 0 ≤ 30 := r 12 0
    have q2 : (0 : Int) ≤ τ 0 0 ∧ τ 0 0 ≤ 4 := r 0 0
    have q3 := en_r r x.toNat
    have hk4 := hk.2.2.2
    refine ⟨((((r.tu (c := 13) (show (0 : Int) ≤ x by omega) (show x ≤ 3 by omega)).tu (c := 14) (show (0 : Int) ≤ u by omega) (show u ≤ 20000 by omega)).tu (c := 15) (show (0 : Int) ≤ v by omega) (show v ≤ 20000 by omega)).tu (c := 16) (show (0 : Int) ≤ 4 by omega) (show (4 : Int) ≤ 4 by omega)).tu (c := 12) (show (0 : Int) ≤ τ 12 0 + 1 by omega) (show τ 12 0 + 1 ≤ 30 by omega), iA_c a rfl rfl rfl, ?_, fun y k hy hl => ?_, iD_c d rfl rfl, iE_c e rfl rfl, zA_c f rfl rfl rfl rfl rfl rfl rfl, zB_c g rfl rfl rfl rfl, zC_c i rfl rfl, zD_c j rfl rfl rfl⟩
    · show τ 17 0 = sm (fun s => 4 - fu (τ 16) (τ 12 0).toNat 4 s) (tu _ 12 0 (τ 12 0 + 1) 12 0).toNat
      rw [tu_s, show (τ 12 0 + 1).toNat = (τ 12 0).toNat + 1 by omega, sm_s, fu_s, b, sm_cong (f := fun s => 4 - fu (τ 16) (τ 12 0).toNat 4 s) (g := fun s => 4 - τ 16 s) (fun k hk => by show 4 - fu (τ 16) (τ 12 0).toNat 4 k = 4 - τ 16 k; rw [fu_n (by omega)])]
      omega
    · have h9 := c y k hy hl
      refine ⟨h9.1, fun h => ?_⟩
      have h8 : τ 21 (16 * y + k) < τ 12 0 := h9.2 h
      show τ 21 (16 * y + k) < tu _ 12 0 (τ 12 0 + 1) 12 0
      rw [tu_s]
      omega
  · exact q
theorem IZ.place {b : Nat} {k o v : Int} (q : IZ τ) (hb : (b : Int) < τ 18 0) (hn : ¬ τ 19 b = 16) (hk : 0 ≤ k ∧ k ≤ 3) (ho : 0 ≤ o ∧ o ≤ 100000) (hv : 0 ≤ v ∧ v ≤ 10000) (h3 : k = 3 → o < τ 19 b) (h0 : k = 0 → o < τ 12 0) : IZ (adT τ b k o v) := by
  obtain ⟨r, a, b', c, d, e, f, g, i, j⟩ := q
  have q1 : (0 : Int) ≤ τ 19 b ∧ τ 19 b ≤ 16 := r 19 b
  refine ⟨(((r.tu (c := 20) (show (0 : Int) ≤ k by omega) (show k ≤ 3 by omega)).tu (c := 21) (show (0 : Int) ≤ o by omega) (show o ≤ 100000 by omega)).tu (c := 22) (show (0 : Int) ≤ v by omega) (show v ≤ 10000 by omega)).tu (c := 19) (show (0 : Int) ≤ τ 19 b + 1 by omega) (show τ 19 b + 1 ≤ 16 by omega), iA_c a rfl rfl rfl, iB_c b' rfl rfl rfl, fun x y hy hl => ?_, iD_c d rfl rfl, iE_c e rfl rfl, zA_c f rfl rfl rfl rfl rfl rfl rfl, zB_c g rfl rfl rfl rfl, fun x hx => ?_, fun x y hy hl => ?_⟩
  · have hl : (y : Int) < fu (τ 19) b (τ 19 b + 1) x := hl
    show (fu (τ 20) (16 * b + (τ 19 b).toNat) k (16 * x + y) = 3 → fu (τ 21) (16 * b + (τ 19 b).toNat) o (16 * x + y) < y) ∧ (fu (τ 20) (16 * b + (τ 19 b).toNat) k (16 * x + y) = 0 → fu (τ 21) (16 * b + (τ 19 b).toNat) o (16 * x + y) < τ 12 0)
    by_cases ex : x = b
    · subst ex
      rw [fu_s] at hl
      by_cases ey : y = (τ 19 x).toNat
      · subst ey
        rw [fu_s, fu_s]
        exact ⟨fun h => by have := h3 h; omega, h0⟩
      · rw [fu_n (by omega), fu_n (by omega)]
        exact c x y hy (by omega)
    · rw [fu_n ex] at hl
      rw [fu_n (by omega), fu_n (by omega)]
      exact c x y hy hl
  · have hx : τ 18 0 ≤ (x : Int) := hx
    exact (show fu (τ 19) b (τ 19 b + 1) x = 0 from (fu_n (by omega)).trans (i x hx))
  · have hl : fu (τ 19) b (τ 19 b + 1) x ≤ (y : Int) := hl
    by_cases ex : x = b
    · subst ex
      rw [fu_s] at hl
      exact j x y hy (by omega)
    · rw [fu_n ex] at hl
      exact j x y hy hl
theorem IZ.quarter {n : Nat} (q : IZ τ) (hj : (n : Int) < τ 12 0) (h0 : ¬ τ 16 n = 0) : IZ (qtT τ n) := by
  obtain ⟨r, a, b, c, d, e, f, g, i, j⟩ := q
  have q1 : (0 : Int) ≤ τ 12 0 ∧ τ 12 0 ≤ 30 := r 12 0
  have q2 : (0 : Int) ≤ τ 16 n ∧ τ 16 n ≤ 4 := r 16 n
  have q3 : (0 : Int) ≤ τ 17 0 ∧ τ 17 0 ≤ 120 := r 17 0
  have hs : sm (fun s => 4 - fu (τ 16) n (τ 16 n - 1) s) (τ 12 0).toNat = τ 17 0 + 1 := by
    rw [show τ 17 0 = _ from b]
    exact sm_fu (j := n) (d := 1) (by show 4 - fu (τ 16) n (τ 16 n - 1) n = 4 - τ 16 n + 1; rw [fu_s]; omega) (fun k hk => by show 4 - fu (τ 16) n (τ 16 n - 1) k = 4 - τ 16 k; rw [fu_n hk]) (by omega)
  have hR1 : Rng (tu τ 16 n (τ 16 n - 1)) := r.tu (c := 16) (show (0 : Int) ≤ τ 16 n - 1 by omega) (show τ 16 n - 1 ≤ 4 by omega)
  have h120 := sm_rng (f := fun s => 4 - fu (τ 16) n (τ 16 n - 1) s) (lo := 0) (hi := 4) (n := (τ 12 0).toNat) (fun k _ => by
    have : (0 : Int) ≤ fu (τ 16) n (τ 16 n - 1) k ∧ fu (τ 16) n (τ 16 n - 1) k ≤ 4 := by
      have h8 := hR1 16 k
      rw [tu_c] at h8
      exact h8
    show 0 ≤ 4 - fu (τ 16) n (τ 16 n - 1) k ∧ 4 - fu (τ 16) n (τ 16 n - 1) k ≤ 4
    omega)
  have h121 : ((τ 12 0).toNat : Int) * 4 ≤ 30 * 4 := Int.mul_le_mul_of_nonneg_right (by omega) (by decide)
  refine ⟨hR1.tu (c := 17) (show (0 : Int) ≤ τ 17 0 + 1 by omega) (show τ 17 0 + 1 ≤ 120 by omega), iA_c a rfl rfl rfl, ?_, iC_c c rfl rfl rfl rfl, iD_c d rfl rfl, iE_c e rfl rfl, zA_c f rfl rfl rfl rfl rfl rfl rfl, zB_c g rfl rfl rfl rfl, zC_c i rfl rfl, zD_c j rfl rfl rfl⟩
  show tu _ 17 0 (τ 17 0 + 1) 17 0 = sm (fun s => 4 - fu (τ 16) n (τ 16 n - 1) s) (τ 12 0).toNat
  rw [tu_s, hs]
theorem IZ.put (q : IZ τ) {x y : Int} : IZ (stPut τ x y) := by
  unfold stPut
  split
  · rename_i hk
    have q1 : (0 : Int) ≤ τ 12 0 ∧ τ 12 0 ≤ 30 := q.1 12 0
    exact (IZ.place (k := 0) (o := y) (v := 0) q (b := x.toNat) (by omega) hk.2.2 (by omega) (by omega) (by omega) (by omega) (by omega)).quarter (show ((y.toNat : Nat) : Int) < τ 12 0 by omega) (show ¬ τ 16 y.toNat = 0 from hk.2.1.1)
  · exact q
theorem IZ.standard (q : IZ τ) {x u v : Int} : IZ (stStd τ x u v) := by
  unfold stStd
  split
  · rename_i hk
    exact IZ.place q (by omega) hk.2.2.2 (by omega) (by omega) (by omega) (by omega) (by omega)
  · exact q
theorem IZ.blank (q : IZ τ) {x : Int} : IZ (stBlank τ x) := by
  unfold stBlank
  split
  · rename_i hk
    exact IZ.place q (by omega) hk.2.2 (by omega) (by omega) (by omega) (by omega) (by omega)
  · exact q
theorem IZ.twice (q : IZ τ) {x u : Int} : IZ (stTwice τ x u) := by
  unfold stTwice
  split
  · rename_i hk
    have q1 : (0 : Int) ≤ τ 12 0 ∧ τ 12 0 ≤ 30 := q.1 12 0
    have q2 : (0 : Int) ≤ τ 19 x.toNat ∧ τ 19 x.toNat ≤ 16 := q.1 19 _
    have q3 : (0 : Int) ≤ τ 21 (16 * x.toNat + u.toNat) ∧ τ 21 (16 * x.toNat + u.toNat) ≤ 100000 := q.1 21 _
    have h9 := (q.2.2.2.1 x.toNat u.toNat (by omega) (by omega)).2 hk.2.1
    exact (IZ.place (k := 3) (o := u) (v := 0) q (b := x.toNat) (by omega) hk.2.2.2 (by omega) (by omega) (by omega) (by omega) (by omega)).quarter (show (((τ 21 (16 * x.toNat + u.toNat)).toNat : Nat) : Int) < τ 12 0 by omega) (show ¬ τ 16 (τ 21 (16 * x.toNat + u.toNat)).toNat = 0 from hk.2.2.1.1)
  · exact q
theorem IZ.result (q : IZ τ) {x y u : Int} : IZ (stRes τ x y u) := by
  unfold stRes
  split
  · rename_i hk
    obtain ⟨r, a, b, c, d, e, f, g, i, j⟩ := q
    have q2 : (0 : Int) ≤ τ 19 x.toNat ∧ τ 19 x.toNat ≤ 16 := r 19 _
    refine ⟨(r.tu (c := 24) (show (-1000 : Int) ≤ u by omega) (show u ≤ 100000 by omega)).tu (c := 23) (show (0 : Int) ≤ 1 by omega) (show (1 : Int) ≤ 1 by omega), iA_c a rfl rfl rfl, iB_c b rfl rfl rfl, iC_c c rfl rfl rfl rfl, iD_c d rfl rfl, fun k h => ?_, zA_c f rfl rfl rfl rfl rfl rfl rfl, zB_c g rfl rfl rfl rfl, zC_c i rfl rfl, fun n k hk2 hl => ?_⟩
    · have h : fu (τ 23) (16 * x.toNat + y.toNat) 1 k = 0 := h
      by_cases ek : k = 16 * x.toNat + y.toNat
      · rw [ek, fu_s] at h
        omega
      · rw [fu_n ek] at h
        exact (show fu (τ 24) (16 * x.toNat + y.toNat) u k = 0 from (fu_n ek).trans (e k h))
    · have hl : τ 19 n ≤ (k : Int) := hl
      have ne : 16 * n + k ≠ 16 * x.toNat + y.toNat := fun e => by
        have e1 : n = x.toNat := by omega
        subst e1
        omega
      have h9 := j n k hk2 hl
      exact ⟨(show fu (τ 23) (16 * x.toNat + y.toNat) 1 (16 * n + k) = 0 from (fu_n ne).trans h9.1), (show fu (τ 24) (16 * x.toNat + y.toNat) u (16 * n + k) = 0 from (fu_n ne).trans h9.2)⟩
  · exact q
theorem tn_f {b k n : Nat} (h1 : n ≠ 16 * b + k) (h2 : n ≠ 16 * b + k + 1) : tnT τ b k 24 n = τ 24 n := by
  unfold tnT
  rw [tu_c, fu_n h2, tu_c, fu_n h1]
theorem IZ.exchange (q : IZ τ) {x u : Int} : IZ (stExch τ x u) := by
  unfold stExch
  split
  · rename_i hk
    obtain ⟨r, a, b, c, d, e, f, g, i, j⟩ := q
    have q2 : (0 : Int) ≤ τ 19 x.toNat ∧ τ 19 x.toNat ≤ 16 := r 19 _
    have n : ∀ d2, d2 ≠ 24 → tnT τ x.toNat u.toNat d2 = τ d2 := fun d2 h => tn_n h
    refine ⟨tn_R r, iA_c a (n _ (by decide)) (n _ (by decide)) (n _ (by decide)), iB_c b (n _ (by decide)) (n _ (by decide)) (n _ (by decide)), iC_c c (n _ (by decide)) (n _ (by decide)) (n _ (by decide)) (n _ (by decide)), iD_c d (n _ (by decide)) (n _ (by decide)), fun k h => ?_, zA_c f (n _ (by decide)) (n _ (by decide)) (n _ (by decide)) (n _ (by decide)) (n _ (by decide)) (n _ (by decide)) (n _ (by decide)), zB_c g (n _ (by decide)) (n _ (by decide)) (n _ (by decide)) (n _ (by decide)), zC_c i (n _ (by decide)) (n _ (by decide)), fun y k hk2 hl => ?_⟩
    · rw [n 23 (by decide)] at h
      rw [tn_f (fun e1 => hk.2.1 (by rw [← e1]; exact h)) (fun e1 => hk.2.2 (by rw [← e1]; exact h))]
      exact e k h
    · rw [n 19 (by decide)] at hl
      have h9 := j y k hk2 hl
      have n1 : 16 * y + k ≠ 16 * x.toNat + u.toNat := fun e => by
        have e1 : y = x.toNat := by omega
        subst e1
        omega
      have n2 : 16 * y + k ≠ 16 * x.toNat + u.toNat + 1 := fun e => by
        have e1 : y = x.toNat := by omega
        subst e1
        omega
      rw [n 23 (by decide), tn_f n1 n2]
      exact h9
  · exact q
theorem IZ.sc {τ2 : Tau} (q : IZ τ) (h : Sc τ τ2) : IZ τ2 := by
  obtain ⟨r, a, b, c, d, e, f, g, i, j⟩ := q
  have n : ∀ k, k ≠ 6 → k ≠ 7 → k ≠ 26 → τ2 k = τ k := h.1
  refine ⟨h.2, iA_c a ?_ ?_ ?_, iB_c b ?_ ?_ ?_, iC_c c ?_ ?_ ?_ ?_, iD_c d ?_ ?_, iE_c e ?_ ?_, zA_c f ?_ ?_ ?_ ?_ ?_ ?_ ?_, zB_c g ?_ ?_ ?_ ?_, zC_c i ?_ ?_, zD_c j ?_ ?_ ?_⟩ <;> exact n _ (by decide) (by decide) (by decide)
theorem IZ.zero : IZ τ0 := by
  refine ⟨fun c i => ?_, fun h => ?_, rfl, fun b q hq hl => ?_, fun g k hk hl => ?_, fun q h => rfl, fun h hh => ⟨rfl, rfl, rfl, fun k hk => ⟨rfl, rfl, rfl⟩⟩, fun g hg => ⟨rfl, fun k hk => ⟨rfl, rfl⟩⟩, fun b hb => rfl, fun b q hq hl => ⟨rfl, rfl⟩⟩
  · by_cases h1 : c = 11
    · subst h1
      show (0 : Int) ≤ (if i < 10 then (i : Int) else 0) ∧ (if i < 10 then (i : Int) else 0) ≤ 9
      split <;> omega
    · by_cases h2 : c = 25
      · subst h2
        show (0 : Int) ≤ (if i = 0 then 5 else if i = 1 then 100 else 0) ∧ (if i = 0 then 5 else if i = 1 then 100 else 0) ≤ (1000 : Int)
        split
        · omega
        · split <;> omega
      · have e : τ0 c i = 0 := by
          unfold τ0
          split
          · exact absurd rfl h1
          · exact absurd rfl h2
          · rfl
        rw [e]
        exact ⟨by unfold tLo; split <;> decide, by unfold tHi; split <;> decide⟩
  · show (0 : Int) = sm _ 0
    rfl
  · have : (q : Int) < 0 := hl
    omega
  · have : (k : Int) < 0 := hl
    omega
end KP
