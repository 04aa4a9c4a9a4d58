/-! the pure words -/
def sm (f : Nat → Int) : Nat → Int
  | 0 => 0
  | n + 1 => sm f n + f n
theorem sm_s (f : Nat → Int) (n : Nat) : sm f (n + 1) = sm f n + f n := rfl
theorem sm_cong {f g : Nat → Int} : ∀ {n : Nat}, (∀ k, k < n → f k = g k) → sm f n = sm g n
  | 0, _ => rfl
  | n + 1, h => by rw [sm_s, sm_s, sm_cong (fun k hk => h k (by omega)), h n (by omega)]
theorem sm_rng {f : Nat → Int} {lo hi : Int} : ∀ {n : Nat}, (∀ k, k < n → lo ≤ f k ∧ f k ≤ hi) → n * lo ≤ sm f n ∧ sm f n ≤ n * hi
  | 0, _ => by simp [sm]
  | n + 1, h => by
    have h1 := sm_rng (n := n) (fun k hk => h k (Nat.lt_succ_of_lt hk))
    have h2 := h n (by omega)
    rw [sm_s]
    have e1 : ((n + 1 : Nat) : Int) * lo = n * lo + lo := by rw [Int.natCast_add, Int.add_mul]; simp
    have e2 : ((n + 1 : Nat) : Int) * hi = n * hi + hi := by rw [Int.natCast_add, Int.add_mul]; simp
    omega
def tLo : Nat → Int := fun c => match c with
  | 24 => -1000
  | 6 => -2147483648
  | 26 => -2147483648
  | _ => 0
def tHi : Nat → Int := fun c => match c with
  | 0 => 4 | 1 => 20 | 2 => 1000 | 3 => 1000 | 4 => 20 | 5 => 100000 | 7 => 1 | 8 => 20 | 9 => 20000 | 10 => 9 | 11 => 9 | 12 => 30 | 13 => 3 | 14 => 20000 | 15 => 20000 | 16 => 4 | 17 => 120 | 18 => 6 | 19 => 16 | 20 => 3 | 21 => 100000 | 22 => 10000 | 23 => 1 | 24 => 100000 | 25 => 1000 | 27 => 20000
  | _ => 2147483647
def Rng (τ : Tau) : Prop := ∀ c i : Nat, tLo c ≤ τ c i ∧ τ c i ≤ tHi c
def frO (τ : Tau) (l k : Nat) : Int := if k = 0 then 0 else τ 9 (20 * l + (k - 1))
def enO (τ : Tau) (h : Nat) : Int := sm (fun k => τ 2 (20 * h + k)) (τ 1 h).toNat
def Inv (τ : Tau) : Prop := Rng τ ∧ (∀ h : Nat, τ 27 h = enO τ h) ∧ (τ 17 0 = sm (fun s => 4 - τ 16 s) (τ 12 0).toNat) ∧
  (∀ b q : Nat, q < 16 → (q : Int) < τ 19 b → (τ 20 (16 * b + q) = 3 → τ 21 (16 * b + q) < q) ∧ (τ 20 (16 * b + q) = 0 → τ 21 (16 * b + q) < τ 12 0)) ∧
  (∀ g k : Nat, k < 20 → (k : Int) < τ 8 g → frO τ g k < τ 9 (20 * g + k)) ∧ (∀ q : Nat, τ 23 q = 0 → τ 24 q = 0)
theorem Rng.tu {τ : Tau} {c i : Nat} {v : Int} (h : Rng τ) (h1 : tLo c ≤ v) (h2 : v ≤ tHi c) : Rng (tu τ c i v) := fun d j => by
  by_cases hd : d = c
  · subst hd
    rw [tu_c]
    by_cases hj : j = i
    · subst hj
      rw [fu_s]
      exact ⟨h1, h2⟩
    · rw [fu_n hj]
      exact h d j
  · rw [tu_n hd]
    exact h d j
theorem en_r {τ : Tau} (h : Rng τ) (i : Nat) : 0 ≤ enO τ i ∧ enO τ i ≤ 20000 := by
  have h1 := sm_rng (f := fun k => τ 2 (20 * i + k)) (lo := 0) (hi := 1000) (n := (τ 1 i).toNat) (fun k _ => h 2 (20 * i + k))
  have h2 : (0 : Int) ≤ τ 1 i ∧ τ 1 i ≤ 20 := h 1 i
  have h3 : ((τ 1 i).toNat : Int) ≤ 20 := by omega
  have h4 : ((τ 1 i).toNat : Int) * 1000 ≤ 20 * 1000 := Int.mul_le_mul_of_nonneg_right h3 (by decide)
  unfold enO
  omega
theorem fr_r {τ : Tau} (h : Rng τ) (l k : Nat) : 0 ≤ frO τ l k ∧ frO τ l k ≤ 20000 := by
  unfold frO
  split
  · decide
  · exact h 9 _
theorem Inv.en {τ : Tau} (h : Inv τ) (i : Nat) : 0 ≤ enO τ i ∧ enO τ i ≤ 20000 := by
  rw [← h.2.1 i]
  exact h.1 27 i
def exs (f : Nat → Bool) : Nat → Bool
  | 0 => false
  | n + 1 => exs f n || f n
def cm (a b c d : Int) : Int := max 0 (min b d - max a c)

def spEnd (τ : Tau) (a : Int) : Int := if 0 ≤ a ∧ a < τ 0 0 then enO τ a.toNat else -101
def usK (τ : Tau) (h k : Nat) : Bool := decide (0 < τ 8 (2 * h)) || decide (0 < τ 8 (2 * h + 1)) || exs (fun s => decide (τ 13 s = h)) k
theorem usK_s (τ : Tau) (h k : Nat) : usK τ h (k + 1) = (usK τ h k || decide (τ 13 k = h)) := by simp [usK, exs, Bool.or_assoc]
def usO (τ : Tau) (h : Nat) : Bool := usK τ h (τ 12 0).toNat
def spHole (τ : Tau) : Int := if τ 0 0 = 4 then -104 else τ 0 0
def stHole (τ : Tau) : Tau := if ¬ τ 0 0 = 4 then tu τ 0 0 (τ 0 0 + 1) else τ
def spBatch (τ : Tau) : Int := if τ 18 0 = 6 then -104 else τ 18 0
def stBatch (τ : Tau) : Tau := if ¬ τ 18 0 = 6 then tu τ 18 0 (τ 18 0 + 1) else τ
abbrev okRun (τ : Tau) (a u v : Int) : Prop := (0 ≤ a ∧ a < τ 0 0) ∧ (1 ≤ u ∧ u ≤ 1000 ∧ 0 ≤ v ∧ v ≤ u) ∧ ¬ usO τ a.toNat = true ∧ ¬ τ 1 a.toNat = 20
def spRun (τ : Tau) (a u v : Int) : Int := if ¬ (0 ≤ a ∧ a < τ 0 0) then -101 else if ¬ (1 ≤ u ∧ u ≤ 1000 ∧ 0 ≤ v ∧ v ≤ u) then -102 else if usO τ a.toNat = true then -103 else if τ 1 a.toNat = 20 then -104 else enO τ a.toNat + u
def stRun (τ : Tau) (a u v : Int) : Tau := if okRun τ a u v then tu (tu (tu (tu τ 2 (20 * a.toNat + (τ 1 a.toNat).toNat) u) 3 (20 * a.toNat + (τ 1 a.toNat).toNat) v) 1 a.toNat (τ 1 a.toNat + 1)) 27 a.toNat (τ 27 a.toNat + u) else τ

theorem en_tu {τ : Tau} {h : Nat} {u v : Int} (hR : Rng τ) : enO (tu (tu (tu τ 2 (20 * h + (τ 1 h).toNat) u) 3 (20 * h + (τ 1 h).toNat) v) 1 h (τ 1 h + 1)) h = enO τ h + u := by
  have h1 : (0 : Int) ≤ τ 1 h ∧ τ 1 h ≤ 20 := hR 1 h
  unfold enO
  rw [tu_s, show (τ 1 h + 1).toNat = (τ 1 h).toNat + 1 by omega, sm_s]
  rw [tu_n (show 2 ≠ 1 by decide), tu_n (show 2 ≠ 3 by decide), tu_s]
  congr 1
  exact sm_cong (fun k hk => by rw [tu_c, fu_n (by omega)])
theorem tu_27 {τ : Tau} {i : Nat} {v : Int} (c : Nat) (h : c < 27) : τ c = tu τ 27 i v c := (tu_n (by omega)).symm
abbrev doK (τ : Tau) (h k : Nat) : Int := sm (fun j => τ 2 (20 * h + j)) k
theorem do_r {τ : Tau} (hR : Rng τ) (h k : Nat) (hk : k ≤ 20) : 0 ≤ doK τ h k ∧ doK τ h k ≤ 20000 := by
  have h1 := sm_rng (f := fun k => τ 2 (20 * h + k)) (lo := 0) (hi := 1000) (n := k) (fun k _ => hR 2 (20 * h + k))
  have h3 : (k : Int) ≤ 20 := by omega
  have h4 : (k : Int) * 1000 ≤ 20 * 1000 := Int.mul_le_mul_of_nonneg_right h3 (by decide)
  unfold doK
  omega
def rcK (τ : Tau) (h : Nat) (a b : Int) (k : Nat) : Int := sm (fun j => cm a b (doK τ h j) (doK τ h j + τ 3 (20 * h + j))) k
def rcO (τ : Tau) (h : Nat) (a b : Int) : Int := rcK τ h a b (τ 1 h).toNat
theorem cm_r (a b u v : Int) (h : 0 ≤ v - u) : 0 ≤ cm a b u v ∧ cm a b u v ≤ v - u := by unfold cm; omega
theorem rc_r {τ : Tau} (hR : Rng τ) (h : Nat) (a b : Int) : 0 ≤ rcO τ h a b ∧ rcO τ h a b ≤ 20000 := by
  have h1 := sm_rng (f := fun j => cm a b (doK τ h j) (doK τ h j + τ 3 (20 * h + j))) (lo := 0) (hi := 1000) (n := (τ 1 h).toNat) (fun k _ => by
    have h5 : (0 : Int) ≤ τ 3 (20 * h + k) ∧ τ 3 (20 * h + k) ≤ 1000 := hR 3 (20 * h + k)
    have := cm_r a b (doK τ h k) (doK τ h k + τ 3 (20 * h + k)) (by omega)
    omega)
  have h2 : (0 : Int) ≤ τ 1 h ∧ τ 1 h ≤ 20 := hR 1 h
  have h3 : ((τ 1 h).toNat : Int) ≤ 20 := by omega
  have h4 : ((τ 1 h).toNat : Int) * 1000 ≤ 20 * 1000 := Int.mul_le_mul_of_nonneg_right h3 (by decide)
  unfold rcO rcK
  omega
def spRec (τ : Tau) (x a b : Int) : Int := if ¬ (0 ≤ x ∧ x < τ 0 0) then -101 else if 0 ≤ a ∧ a < b ∧ b ≤ enO τ x.toNat then rcO τ x.toNat a b else -102
abbrev okMark (τ : Tau) (a u : Int) : Prop := (0 ≤ a ∧ a < τ 0 0) ∧ (0 ≤ u ∧ u ≤ 100000) ∧ ¬ τ 4 a.toNat = 20
def spMark (τ : Tau) (a u : Int) : Int := if ¬ (0 ≤ a ∧ a < τ 0 0) then -101 else if ¬ (0 ≤ u ∧ u ≤ 100000) then -102 else if τ 4 a.toNat = 20 then -104 else τ 4 a.toNat + 1
def stMark (τ : Tau) (a u : Int) : Tau := if okMark τ a u then tu (tu τ 5 (20 * a.toNat + (τ 4 a.toNat).toNat) u) 4 a.toNat (τ 4 a.toNat + 1) else τ
def cdO (τ : Tau) (g k : Nat) : Int := τ 11 (τ 10 (20 * g + k)).toNat
theorem cd_r {τ : Tau} (hR : Rng τ) (g k : Nat) : 0 ≤ cdO τ g k ∧ cdO τ g k ≤ 9 := hR 11 _
def thO (τ : Tau) (g k : Nat) : Int := τ 9 (20 * g + k) - frO τ g k
theorem th_r {τ : Tau} (hR : Rng τ) (g k : Nat) : -20000 ≤ thO τ g k ∧ thO τ g k ≤ 20000 := by
  have h1 : (0 : Int) ≤ τ 9 (20 * g + k) ∧ τ 9 (20 * g + k) ≤ 20000 := hR 9 _
  have h2 := fr_r hR g k
  unfold thO
  omega
abbrev okCode (a u : Int) : Prop := (0 ≤ a ∧ a ≤ 9) ∧ (0 ≤ u ∧ u ≤ 9)
def spCode (τ : Tau) (a u : Int) : Int := if ¬ (0 ≤ a ∧ a ≤ 9) then -101 else if ¬ (0 ≤ u ∧ u ≤ 9) then -102 else τ 11 a.toNat
def stCode (τ : Tau) (a u : Int) : Tau := if okCode a u then tu τ 11 a.toNat u else τ
abbrev okLayer (τ : Tau) (a b u v : Int) : Prop := ((0 ≤ a ∧ a < τ 0 0) ∧ (0 ≤ b ∧ b ≤ 1)) ∧ (frO τ (2 * a.toNat + b.toNat) (τ 8 (2 * a.toNat + b.toNat)).toNat < u ∧ u ≤ enO τ a.toNat ∧ (0 ≤ v ∧ v ≤ 9)) ∧ ¬ τ 8 (2 * a.toNat + b.toNat) = 20
def spLayer (τ : Tau) (a b u v : Int) : Int := if ¬ ((0 ≤ a ∧ a < τ 0 0) ∧ (0 ≤ b ∧ b ≤ 1)) then -101 else if ¬ (frO τ (2 * a.toNat + b.toNat) (τ 8 (2 * a.toNat + b.toNat)).toNat < u ∧ u ≤ enO τ a.toNat ∧ (0 ≤ v ∧ v ≤ 9)) then -102 else if τ 8 (2 * a.toNat + b.toNat) = 20 then -104 else τ 8 (2 * a.toNat + b.toNat) + 1
def stLayer (τ : Tau) (a b u v : Int) : Tau := if okLayer τ a b u v then tu (tu (tu τ 9 (20 * (2 * a.toNat + b.toNat) + (τ 8 (2 * a.toNat + b.toNat)).toNat) u) 10 (20 * (2 * a.toNat + b.toNat) + (τ 8 (2 * a.toNat + b.toNat)).toNat) v) 8 (2 * a.toNat + b.toNat) (τ 8 (2 * a.toNat + b.toNat) + 1) else τ
/-- the first place below n, or -1 -/
def ff (f : Nat → Bool) : Nat → Int
  | 0 => -1
  | n + 1 => if 0 ≤ ff f n then ff f n else if f n then n else -1
theorem ff_no {f : Nat → Bool} : ∀ {n : Nat}, (∀ j, j < n → f j = false) → ff f n = -1
  | 0, _ => rfl
  | n + 1, h => by
    show (if 0 ≤ ff f n then ff f n else if f n then (n : Int) else -1) = -1
    rw [ff_no (fun j hj => h j (Nat.lt_succ_of_lt hj)), if_neg (by decide), h n (Nat.lt_succ_self n)]
    rfl
theorem ff_at {f : Nat → Bool} {k : Nat} (h : ∀ j, j < k → f j = false) (hk : f k = true) : ∀ {n : Nat}, k < n → ff f n = k
  | 0, q => absurd q (Nat.not_lt_zero k)
  | n + 1, q => by
    show (if 0 ≤ ff f n then ff f n else if f n then (n : Int) else -1) = k
    rcases Nat.lt_or_ge k n with q2 | q2
    · rw [ff_at h hk q2, if_pos (by omega)]
    · have e : k = n := by omega
      subst e
      rw [ff_no h, if_neg (by decide), hk]
      rfl
theorem ff_r (f : Nat → Bool) : ∀ n : Nat, -1 ≤ ff f n ∧ ff f n < n ∨ n = 0 ∧ ff f n = -1
  | 0 => Or.inr ⟨rfl, rfl⟩
  | n + 1 => by
    have ih := ff_r f n
    show -1 ≤ (if 0 ≤ ff f n then ff f n else if f n then (n : Int) else -1) ∧ (if 0 ≤ ff f n then ff f n else if f n then (n : Int) else -1) < ((n + 1 : Nat) : Int) ∨ _
    left
    split
    · omega
    · split <;> omega
theorem fl_s {f : Nat → Bool} {k : Nat} (h : ∀ j, j < k → f j = false) (hk : f k = false) : ∀ j, j < k + 1 → f j = false := fun j hj => by
  rcases Nat.lt_or_ge j k with q | q
  · exact h j q
  · have e : j = k := by omega
    rw [e]
    exact hk
theorem fl_0 {f : Nat → Bool} : ∀ j, j < 0 → f j = false := fun j hj => absurd hj (Nat.not_lt_zero j)
def rkB (τ : Tau) (g : Nat) (x : Int) (k : Nat) : Bool := decide (frO τ g k ≤ x ∧ x < τ 9 (20 * g + k))
def rkI (τ : Tau) (g : Nat) (x : Int) : Int := ff (rkB τ g x) (τ 8 g).toNat
def spRock (τ : Tau) (a b x : Int) : Int := if ¬ ((0 ≤ a ∧ a < τ 0 0) ∧ (0 ≤ b ∧ b ≤ 1)) then -101 else if rkI τ (2 * a.toNat + b.toNat) x = -1 then -1 else cdO τ (2 * a.toNat + b.toNat) (rkI τ (2 * a.toNat + b.toNat) x).toNat
/-- the units in which two layers agree -/
def agU (τ : Tau) (h i j : Nat) : Int := if cdO τ (2 * h) i = cdO τ (2 * h + 1) j then cm (frO τ (2 * h) i) (τ 9 (20 * (2 * h) + i)) (frO τ (2 * h + 1) j) (τ 9 (20 * (2 * h + 1) + j)) else 0
theorem ag_t {τ : Tau} {h i j : Nat} (q : cdO τ (2 * h) i = cdO τ (2 * h + 1) j) : agU τ h i j = cm (frO τ (2 * h) i) (τ 9 (20 * (2 * h) + i)) (frO τ (2 * h + 1) j) (τ 9 (20 * (2 * h + 1) + j)) := if_pos q
theorem ag_f {τ : Tau} {h i j : Nat} (q : ¬ cdO τ (2 * h) i = cdO τ (2 * h + 1) j) : agU τ h i j = 0 := if_neg q
def agO (τ : Tau) (h : Nat) : Int := sm (fun i => sm (fun j => agU τ h i j) (τ 8 (2 * h + 1)).toNat) (τ 8 (2 * h)).toNat
def spAgree (τ : Tau) (a : Int) : Int := if ¬ (0 ≤ a ∧ a < τ 0 0) then -101 else agO τ a.toNat

