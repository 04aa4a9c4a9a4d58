/-! the pure words -/
def sm (f : Nat → Int) : Nat → Int
  | 0 => 0
  | n + 1 => sm f n + f n
theorem sm_s (f : Nat → Int) (n : Nat) : sm f (n + 1) = sm f n + f n := rfl
theorem sm_cong {f g : Nat → Int} : ∀ {n : Nat}, (∀ k, k < n → f k = g k) → sm f n = sm g n
  | 0, _ => rfl
  | n + 1, h => by rw [sm_s, sm_s, sm_cong (fun k hk => h k (by omega)), h n (by omega)]
theorem sm_rng {f : Nat → Int} {lo hi : Int} : ∀ {n : Nat}, (∀ k, k < n → lo ≤ f k ∧ f k ≤ hi) → n * lo ≤ sm f n ∧ sm f n ≤ n * hi
  | 0, _ => by simp [sm]
  | n + 1, h => by
    have h1 := sm_rng (n := n) (fun k hk => h k (Nat.lt_succ_of_lt hk))
    have h2 := h n (by omega)
    rw [sm_s]
    have e1 : ((n + 1 : Nat) : Int) * lo = n * lo + lo := by rw [Int.natCast_add, Int.add_mul]; simp
    have e2 : ((n + 1 : Nat) : Int) * hi = n * hi + hi := by rw [Int.natCast_add, Int.add_mul]; simp
    omega
def tLo : Nat → Int := fun c => match c with
  | 24 => -1000
  | 6 => -2147483648
  | 26 => -2147483648
  | _ => 0
def tHi : Nat → Int := fun c => match c with
  | 0 => 4 | 1 => 20 | 2 => 1000 | 3 => 1000 | 4 => 20 | 5 => 100000 | 7 => 1 | 8 => 20 | 9 => 20000 | 10 => 9 | 11 => 9 | 12 => 30 | 13 => 3 | 14 => 20000 | 15 => 20000 | 16 => 4 | 17 => 120 | 18 => 6 | 19 => 16 | 20 => 3 | 21 => 100000 | 22 => 10000 | 23 => 1 | 24 => 100000 | 25 => 1000 | 27 => 20000
  | _ => 2147483647
def Rng (τ : Tau) : Prop := ∀ c i : Nat, tLo c ≤ τ c i ∧ τ c i ≤ tHi c
def frO (τ : Tau) (l k : Nat) : Int := if k = 0 then 0 else τ 9 (20 * l + (k - 1))
def enO (τ : Tau) (h : Nat) : Int := sm (fun k => τ 2 (20 * h + k)) (τ 1 h).toNat
def Inv (τ : Tau) : Prop := Rng τ ∧ (∀ h : Nat, τ 27 h = enO τ h) ∧ (τ 17 0 = sm (fun s => 4 - τ 16 s) (τ 12 0).toNat) ∧
  (∀ b q : Nat, q < 16 → (q : Int) < τ 19 b → (τ 20 (16 * b + q) = 3 → τ 21 (16 * b + q) < q) ∧ (τ 20 (16 * b + q) = 0 → τ 21 (16 * b + q) < τ 12 0)) ∧
  (∀ g k : Nat, k < 20 → (k : Int) < τ 8 g → frO τ g k < τ 9 (20 * g + k)) ∧ (∀ q : Nat, τ 23 q = 0 → τ 24 q = 0)
theorem Rng.tu {τ : Tau} {c i : Nat} {v : Int} (h : Rng τ) (h1 : tLo c ≤ v) (h2 : v ≤ tHi c) : Rng (tu τ c i v) := fun d j => by
  by_cases hd : d = c
  · subst hd
    rw [tu_c]
    by_cases hj : j = i
    · subst hj
      rw [fu_s]
      exact ⟨h1, h2⟩
    · rw [fu_n hj]
      exact h d j
  · rw [tu_n hd]
    exact h d j
theorem en_r {τ : Tau} (h : Rng τ) (i : Nat) : 0 ≤ enO τ i ∧ enO τ i ≤ 20000 := by
  have h1 := sm_rng (f := fun k => τ 2 (20 * i + k)) (lo := 0) (hi := 1000) (n := (τ 1 i).toNat) (fun k _ => h 2 (20 * i + k))
  have h2 : (0 : Int) ≤ τ 1 i ∧ τ 1 i ≤ 20 := h 1 i
  have h3 : ((τ 1 i).toNat : Int) ≤ 20 := by omega
  have h4 : ((τ 1 i).toNat : Int) * 1000 ≤ 20 * 1000 := Int.mul_le_mul_of_nonneg_right h3 (by decide)
  unfold enO
  omega
theorem fr_r {τ : Tau} (h : Rng τ) (l k : Nat) : 0 ≤ frO τ l k ∧ frO τ l k ≤ 20000 := by
  unfold frO
  split
  · decide
  · exact h 9 _
theorem Inv.en {τ : Tau} (h : Inv τ) (i : Nat) : 0 ≤ enO τ i ∧ enO τ i ≤ 20000 := by
  rw [← h.2.1 i]
  exact h.1 27 i
def exs (f : Nat → Bool) : Nat → Bool
  | 0 => false
  | n + 1 => exs f n || f n
def cm (a b c d : Int) : Int := max 0 (min b d - max a c)

def spEnd (τ : Tau) (a : Int) : Int := if 0 ≤ a ∧ a < τ 0 0 then enO τ a.toNat else -101
def usK (τ : Tau) (h k : Nat) : Bool := decide (0 < τ 8 (2 * h)) || decide (0 < τ 8 (2 * h + 1)) || exs (fun s => decide (τ 13 s = h)) k
theorem usK_s (τ : Tau) (h k : Nat) : usK τ h (k + 1) = (usK τ h k || decide (τ 13 k = h)) := by simp [usK, exs, Bool.or_assoc]
def usO (τ : Tau) (h : Nat) : Bool := usK τ h (τ 12 0).toNat
